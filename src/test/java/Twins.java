import java.util.List;
import java.util.function.Consumer;

/**
 * "A method that throws an exception changes nothing": of two guilds with the same past one has to refuse a call,
 * and then both are asked the same.
 */
final class Twins {
    private static final List<Consumer<Interview>> FUTURES = List.of(Interview::askEverything,
        Interview::askAfterAnHour, Interview::askThroughRepairs, Interview::askByChanging, Interview::askByRepairing);

    private final Checks checks;

    Twins(Checks checks) {
        this.checks = checks;
    }

    void dueIllegalArgument(String call, Consumer<HeatGuild> past, Interview.Call refused) {
        dueRefused(call, IllegalArgumentException.class, past, refused);
    }

    void dueIllegalState(String call, Consumer<HeatGuild> past, Interview.Call refused) {
        dueRefused(call, IllegalStateException.class, past, refused);
    }

    void dueNoSuchBoiler(String call, Consumer<HeatGuild> past, Interview.Call refused) {
        dueRefused(call, IndexOutOfBoundsException.class, past, refused);
    }

    private void dueRefused(String call, Class<? extends RuntimeException> want, Consumer<HeatGuild> past,
            Interview.Call refused) {
        for (Consumer<Interview> future : FUTURES) {
            HeatGuild asked = guildWith(past);
            checks.dueThrow(call, want, () -> refused.on(asked));
            dueAlike(call, answersOf(asked, future), answersOf(guildWith(past), future));
        }
    }

    private static HeatGuild guildWith(Consumer<HeatGuild> past) {
        HeatGuild guild = new HeatGuild();
        past.accept(guild);
        return guild;
    }

    private static List<String> answersOf(HeatGuild guild, Consumer<Interview> future) {
        Interview interview = new Interview(guild);
        future.accept(interview);
        return interview.answers();
    }

    private void dueAlike(String call, List<String> answers, List<String> want) {
        String after = "the guild, after the refused " + call + ",";
        for (int i = 0; i < want.size(); i++) {
            checks.due(after, answers.get(i), want.get(i));
        }
    }
}
