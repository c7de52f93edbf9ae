import java.util.ArrayList;
import java.util.List;

/** Asks a guild one thing after the other, and keeps what it answers or throws, to be laid beside another's. */
final class Interview {
    interface Call {
        long on(HeatGuild guild);
    }

    private final HeatGuild guild;
    private final List<String> answers = new ArrayList<>();

    Interview(HeatGuild guild) {
        this.guild = guild;
    }

    List<String> answers() {
        return answers;
    }

    void ask(String name, Call call) {
        String answer;
        try {
            answer = Long.toString(call.on(guild));
        } catch (RuntimeException e) {
            answer = e.getClass().getSimpleName();
        }
        answers.add(name + ": " + answer);
    }

    /** All questions that change nothing. */
    void askEverything() {
        ask("hours", HeatGuild::hours);
        ask("losses", HeatGuild::losses);
        ask("cost", HeatGuild::cost);
        for (int temperature : new int[] {-20, 8, 17, 18}) {
            ask("load at " + temperature, it -> it.load(temperature));
        }
        for (int boiler = -1; boiler <= 4; boiler++) {
            int number = boiler;
            ask("fired of " + number, it -> it.fired(number));
        }
        for (int junction = 1; junction <= 11; junction++) {
            int number = junction;
            ask("got of " + number, it -> it.got(number));
            ask("meter of " + number, it -> it.meter(number));
            ask("isSuspected of " + number, it -> it.isSuspected(number) ? 1 : 0);
            ask("bill of " + number, it -> it.bill(number));
            ask("isOpen of " + number, it -> it.isOpen(number) ? 1 : 0);
        }
    }

    /** What the next hour tells of the net, the boilers and the meters. */
    void askAfterAnHour() {
        ask("hour at 8", it -> it.hour(8));
        askEverything();
        ask("hour at -20", it -> it.hour(-20));
        askEverything();
    }

    /** As many hours as the longest repair has, and one more, with the valves in each. */
    void askThroughRepairs() {
        for (int hour = 1; hour <= 21; hour++) {
            ask("hour at 17", it -> it.hour(17));
            for (int junction = 1; junction <= 11; junction++) {
                int number = junction;
                ask("isOpen of " + number, it -> it.isOpen(number) ? 1 : 0);
            }
        }
        askEverything();
    }

    /** What was there before is told by the calls that change it, a pipe's loss by the load of a house alone. */
    void askByChanging() {
        for (int junction = 1; junction <= 11; junction++) {
            int number = junction;
            ask("area of " + number, it -> it.setArea(number, 0));
            ask("error of " + number, it -> it.setError(number, 0));
        }
        for (int junction = 1; junction <= 11; junction++) {
            int number = junction;
            ask("a small house at " + number, it -> it.setArea(number, 1));
            ask("its load alone", it -> it.load(17));
            ask("no house at " + number, it -> it.setArea(number, 0));
        }
        for (int junction = 1; junction <= 11; junction++) {
            int number = junction;
            ask("source of " + number, it -> it.feed(number, 0, 0));
        }
        for (int boiler = 0; boiler < 5; boiler++) {
            ask("one boiler more", it -> it.addBoiler(1, 1, 1));
        }
        askAfterAnHour();
    }

    /** What a repair of each pipe answers now, and again after a warm hour. */
    void askByRepairing() {
        for (int round = 0; round < 2; round++) {
            for (int junction = 1; junction <= 11; junction++) {
                int number = junction;
                ask("repair of " + number, it -> it.repair(number, 1));
            }
            ask("hour at 10", it -> it.hour(10));
        }
        askEverything();
    }
}
