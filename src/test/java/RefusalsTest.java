import java.util.List;
import java.util.function.Consumer;

/**
 * "A method that throws an exception changes nothing. If several exceptions apply, the one that is documented first is
 * thrown." Each call that is refused, at each stage of a guild's life: the stages are such that other exceptions of
 * the same method apply too.
 */
public final class RefusalsTest {
    private record Stage(String name, Consumer<HeatGuild> past) {
    }

    private static final Checks CHECKS = new Checks();
    private static final Twins TWINS = new Twins(CHECKS);
    private static final int[] NO_HOUSES = {Integer.MIN_VALUE, -1, 0, 12, 13, Integer.MAX_VALUE};
    private static final Stage NEW = new Stage("new", guild -> { });
    private static final Stage BEFORE_THE_FIRST_HOUR = new Stage("before the first hour", RefusalsTest::build);
    private static final Stage AFTER_A_COLD_HOUR = new Stage("after a cold hour", RefusalsTest::buildAndFreeze);
    private static final Stage AFTER_A_WARM_HOUR = new Stage("after a warm hour", RefusalsTest::buildAndWarm);
    private static final Stage FULL = new Stage("with 4 boilers", RefusalsTest::buildFull);
    private static final List<Stage> STAGES =
        List.of(NEW, BEFORE_THE_FIRST_HOUR, AFTER_A_COLD_HOUR, AFTER_A_WARM_HOUR, FULL);

    public static void main(String[] args) {
        for (Stage stage : STAGES) {
            wrongJunctions(stage);
            wrongFeed(stage);
            wrongNumbersOfTheNet(stage);
            wrongBoilers(stage);
            wrongRepairs(stage);
            wrongTemperatures(stage);
        }
        feedWhenAnHourHasPassed();
        addBoilerWhenThereAre4();
        repairWhenItIsShutOrCold();
        firedOfNoBoiler();
        manyRefusedCalls();
        CHECKS.finish("RefusalsTest");
    }

    /** A tree with a repair under way, of pipe 5, and boilers that are not fired in the order of their numbers. */
    private static void build(HeatGuild guild) {
        int[][] pipes = {{2, 1, 3}, {3, 2, 0}, {5, 2, 20}, {7, 5, 4}, {11, 10, 2}};
        for (int[] pipe : pipes) {
            guild.feed(pipe[0], pipe[1], pipe[2]);
        }
        int[][] houses = {{1, 10, 0}, {3, 20, 6}, {4, 30, -1}, {5, 7, -20}, {7, 50, 20}, {11, 33, 0}};
        for (int[] house : houses) {
            guild.setArea(house[0], house[1]);
            guild.setError(house[0], house[2]);
        }
        guild.addBoiler(2, 30, 9);
        guild.addBoiler(5, 10, 4);
        guild.repair(5, 4);
    }

    private static void buildAndFreeze(HeatGuild guild) {
        build(guild);
        guild.hour(12);
        guild.hour(9);
    }

    private static void buildAndWarm(HeatGuild guild) {
        build(guild);
        guild.hour(-20);
        guild.hour(10);
    }

    private static void buildFull(HeatGuild guild) {
        build(guild);
        guild.addBoiler(1, 1, 4);
        guild.addBoiler(3, 2, 100);
        guild.hour(-20);
        guild.hour(17);
        guild.repair(2, 2);
    }

    private static void illegalArgument(Stage stage, String call, Interview.Call refused) {
        TWINS.dueIllegalArgument(call + ", " + stage.name, stage.past, refused);
    }

    private static void illegalState(Stage stage, String call, Interview.Call refused) {
        TWINS.dueIllegalState(call + ", " + stage.name, stage.past, refused);
    }

    private static void wrongJunctions(Stage stage) {
        for (int junction : NO_HOUSES) {
            String of = " of junction " + junction;
            illegalArgument(stage, "2: feed" + of, it -> it.feed(junction, 0, 2));
            illegalArgument(stage, "2: feed" + of + ", from and loss wrong too", it -> it.feed(junction, junction, 21));
            illegalArgument(stage, "3: setArea" + of, it -> it.setArea(junction, 5));
            illegalArgument(stage, "3: setArea" + of + ", area wrong too", it -> it.setArea(junction, 51));
            illegalArgument(stage, "5: setError" + of, it -> it.setError(junction, 5));
            illegalArgument(stage, "5: setError" + of + ", error wrong too", it -> it.setError(junction, -21));
            illegalArgument(stage, "6: repair" + of, it -> it.repair(junction, 2));
            illegalArgument(stage, "6: repair" + of + ", hours wrong too", it -> it.repair(junction, 0));
            illegalArgument(stage, "11: got" + of, it -> it.got(junction));
            illegalArgument(stage, "12: meter" + of, it -> it.meter(junction));
            illegalArgument(stage, "13: isSuspected" + of, it -> it.isSuspected(junction) ? 1 : 0);
            illegalArgument(stage, "15: bill" + of, it -> it.bill(junction));
            illegalArgument(stage, "17: isOpen" + of, it -> it.isOpen(junction) ? 1 : 0);
        }
    }

    private static void wrongFeed(Stage stage) {
        for (int junction = 1; junction <= 11; junction++) {
            int fed = junction;
            for (int from : new int[] {-1, junction, junction + 1}) {
                illegalArgument(stage, "2: feed " + fed + " from " + from, it -> it.feed(fed, from, 2));
            }
        }
        for (int from : new int[] {Integer.MIN_VALUE, 12, Integer.MAX_VALUE}) {
            illegalArgument(stage, "2: feed 7 from " + from, it -> it.feed(7, from, 2));
        }
        for (int loss : new int[] {Integer.MIN_VALUE, -1, 21, Integer.MAX_VALUE}) {
            illegalArgument(stage, "2: feed with a loss of " + loss, it -> it.feed(7, 1, loss));
        }
        illegalArgument(stage, "2: feed with from and loss wrong", it -> it.feed(7, 7, -1));
    }

    private static void wrongNumbersOfTheNet(Stage stage) {
        for (int area : new int[] {Integer.MIN_VALUE, -1, 51, Integer.MAX_VALUE}) {
            illegalArgument(stage, "3: area " + area, it -> it.setArea(3, area));
        }
        for (int error : new int[] {Integer.MIN_VALUE, -21, 21, Integer.MAX_VALUE}) {
            illegalArgument(stage, "5: error " + error, it -> it.setError(3, error));
        }
    }

    private static void wrongBoilers(Stage stage) {
        for (int steps : new int[] {Integer.MIN_VALUE, -1, 0, 6, Integer.MAX_VALUE}) {
            illegalArgument(stage, "4: steps " + steps, it -> it.addBoiler(steps, 10, 10));
        }
        for (int number : new int[] {Integer.MIN_VALUE, -1, 0, 101, Integer.MAX_VALUE}) {
            illegalArgument(stage, "4: power " + number, it -> it.addBoiler(2, number, 10));
            illegalArgument(stage, "4: cost " + number, it -> it.addBoiler(2, 10, number));
            illegalArgument(stage, "4: power and cost " + number, it -> it.addBoiler(2, number, number));
        }
    }

    private static void wrongRepairs(Stage stage) {
        for (int hours : new int[] {Integer.MIN_VALUE, -1, 0, 21, Integer.MAX_VALUE}) {
            illegalArgument(stage, "6: repair of an open pipe for " + hours, it -> it.repair(4, hours));
            illegalArgument(stage, "6: repair of a shut pipe for " + hours, it -> it.repair(5, hours));
        }
    }

    private static void wrongTemperatures(Stage stage) {
        for (int temperature : new int[] {Integer.MIN_VALUE, -21, 31, Integer.MAX_VALUE}) {
            illegalArgument(stage, "7: hour at " + temperature, it -> it.hour(temperature));
            illegalArgument(stage, "9: load at " + temperature, it -> it.load(temperature));
        }
    }

    private static void feedWhenAnHourHasPassed() {
        for (Stage stage : List.of(AFTER_A_COLD_HOUR, AFTER_A_WARM_HOUR, FULL)) {
            illegalState(stage, "2: feed", it -> it.feed(4, 3, 9));
            illegalState(stage, "2: feed as it is fed already", it -> it.feed(2, 1, 3));
            illegalState(stage, "2: feed at the lowest", it -> it.feed(1, 0, 0));
            illegalState(stage, "2: feed at the highest", it -> it.feed(11, 10, 20));
        }
    }

    private static void addBoilerWhenThereAre4() {
        illegalState(FULL, "4: a fifth boiler at the lowest", it -> it.addBoiler(1, 1, 1));
        illegalState(FULL, "4: a fifth boiler at the highest", it -> it.addBoiler(5, 100, 100));
    }

    private static void repairWhenItIsShutOrCold() {
        for (int hours : new int[] {1, 20}) {
            for (Stage stage : List.of(BEFORE_THE_FIRST_HOUR, AFTER_A_WARM_HOUR, FULL)) {
                illegalState(stage, "6: repair of a shut pipe for " + hours, it -> it.repair(5, hours));
            }
            illegalState(FULL, "6: repair of a pipe just shut for " + hours, it -> it.repair(2, hours));
            illegalState(AFTER_A_COLD_HOUR, "6: repair in the cold for " + hours, it -> it.repair(4, hours));
            illegalState(AFTER_A_COLD_HOUR, "6: repair of a shut pipe in the cold", it -> it.repair(5, hours));
            illegalState(AFTER_A_COLD_HOUR, "6: repair in the cold without a house", it -> it.repair(9, hours));
        }
    }

    private static void firedOfNoBoiler() {
        int[] boilers = {0, 2, 2, 2, 4};
        for (int i = 0; i < STAGES.size(); i++) {
            Stage stage = STAGES.get(i);
            for (int boiler : new int[] {Integer.MIN_VALUE, -1, boilers[i], boilers[i] + 1, Integer.MAX_VALUE}) {
                TWINS.dueNoSuchBoiler("10: fired of " + boiler + ", " + stage.name, stage.past, it -> it.fired(boiler));
            }
        }
    }

    private static void manyRefusedCalls() {
        HeatGuild guild = new HeatGuild();
        for (int call = 1; call <= 100; call++) {
            CHECKS.dueIllegalArgument("7: hour", () -> guild.hour(31));
            CHECKS.dueIllegalArgument("4: addBoiler", () -> guild.addBoiler(1, 1, 0));
            CHECKS.dueIllegalArgument("2: feed", () -> guild.feed(1, 1, 1));
            CHECKS.dueIllegalArgument("6: repair", () -> guild.repair(1, 21));
        }
        CHECKS.due("8: no hour by refused calls", guild.hours(), 0);
        CHECKS.due("4: no boiler by refused calls", guild.addBoiler(1, 1, 1), 0);
        CHECKS.due("2: refused calls do not end the time of feed", guild.feed(1, 0, 1), 0);
        CHECKS.due("6: refused calls shut no valve", guild.repair(1, 1), 0);
    }
}
