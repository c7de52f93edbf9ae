/** Promises 1 to 6: a new object, feed, setArea, addBoiler, setError, repair. */
public final class NetTest {
    private static final Checks CHECKS = new Checks();

    public static void main(String[] args) {
        promise1NewObject();
        promise1PipesAtFirst();
        promise2Feed();
        promise2FeedWrong();
        promise2FeedAfterAnHour();
        promise3SetArea();
        promise3SetAreaWrong();
        promise4AddBoiler();
        promise4AddBoilerWrong();
        promise4AddBoilerFull();
        promise5SetError();
        promise5SetErrorWrong();
        promise6Repair();
        promise6RepairCountsHouses();
        promise6RepairWrong();
        promise6RepairWaitsForAWarmDay();
        promise6RepairOfAShutValve();
        CHECKS.finish("NetTest");
    }

    private static void promise1NewObject() {
        HeatGuild guild = new HeatGuild();
        CHECKS.due("1: hours", guild.hours(), 0);
        CHECKS.due("1: losses", guild.losses(), 0);
        CHECKS.due("1: cost", guild.cost(), 0);
        CHECKS.due("1: load", guild.load(-20), 0);
        CHECKS.dueThrow("1: fired(0) without boilers", IndexOutOfBoundsException.class, () -> guild.fired(0));
        for (int junction = 1; junction <= 11; junction++) {
            CHECKS.due("1: got " + junction, guild.got(junction), 0);
            CHECKS.due("1: meter " + junction, guild.meter(junction), 0);
            CHECKS.due("1: bill " + junction, guild.bill(junction), 0);
            CHECKS.due("1: isSuspected " + junction, guild.isSuspected(junction), false);
            CHECKS.due("1: isOpen " + junction, guild.isOpen(junction), true);
            CHECKS.due("1: area " + junction, guild.setArea(junction, 0), 0);
            CHECKS.due("1: error " + junction, guild.setError(junction, 0), 0);
            CHECKS.due("1: source " + junction, guild.feed(junction, 0, 0), 0);
        }
        CHECKS.due("1: objects are apart", new HeatGuild().setArea(1, 9) + new HeatGuild().setArea(1, 9), 0);
    }

    private static void promise1PipesAtFirst() {
        HeatGuild guild = new HeatGuild();
        for (int junction = 1; junction <= 11; junction++) {
            guild.setArea(junction, 10);
            CHECKS.due("1: each pipe from 0 has a loss of 1 at first", guild.load(8), 11 * junction);
        }
    }

    private static void promise2Feed() {
        HeatGuild guild = new HeatGuild();
        CHECKS.due("2: at first from 0", guild.feed(11, 10, 20), 0);
        CHECKS.due("2: from 10 before", guild.feed(11, 4, 7), 10);
        CHECKS.due("2: from 4 before", guild.feed(11, 4, 6), 4);
        CHECKS.due("2: junction 1", guild.feed(1, 0, 20), 0);
        CHECKS.due("2: others stay", guild.feed(4, 1, 0), 0);
        guild.setArea(11, 10);
        CHECKS.due("2: loss 6 of pipe 11, 0 of pipe 4, 20 of pipe 1", guild.load(8), 36);
        guild.feed(4, 3, 2);
        CHECKS.due("2: loss 6 of pipe 11, 2 of pipe 4, 1 of pipe 3", guild.load(8), 19);
        guild.repair(3, 1);
        CHECKS.due("2: nothing comes through a shut valve", guild.load(8), 0);
        guild.feed(4, 2, 2);
        CHECKS.due("2: fed round the shut valve", guild.load(8), 19);
    }

    private static void promise2FeedWrong() {
        HeatGuild guild = new HeatGuild();
        guild.feed(3, 1, 5);
        guild.setArea(3, 10);
        CHECKS.dueIllegalJunctions("2: feed", junction -> () -> guild.feed(junction, 0, 0));
        for (int from : new int[] {-1, 3, 4, Integer.MIN_VALUE, Integer.MAX_VALUE}) {
            CHECKS.dueIllegalArgument("2: feed from " + from, () -> guild.feed(3, from, 0));
        }
        for (int loss : new int[] {-1, 21, Integer.MIN_VALUE, Integer.MAX_VALUE}) {
            CHECKS.dueIllegalArgument("2: feed loss " + loss, () -> guild.feed(3, 0, loss));
        }
        CHECKS.dueIllegalArgument("2: feed 1 from 1", () -> guild.feed(1, 1, 0));
        CHECKS.due("2: nothing has changed", guild.load(8), 16);
        CHECKS.due("2: still from 1", guild.feed(3, 2, 0), 1);
    }

    private static void promise2FeedAfterAnHour() {
        HeatGuild guild = new HeatGuild();
        guild.setArea(2, 10);
        guild.hour(18);
        CHECKS.dueIllegalState("2: feed after an hour", () -> guild.feed(2, 1, 5));
        CHECKS.dueIllegalArgument("2: junction is looked at before the hours", () -> guild.feed(12, 0, 0));
        CHECKS.dueIllegalArgument("2: from is looked at before the hours", () -> guild.feed(2, 2, 0));
        CHECKS.dueIllegalArgument("2: loss is looked at before the hours", () -> guild.feed(2, 1, 21));
        CHECKS.due("2: nothing has changed", guild.load(8), 11);
    }

    private static void promise3SetArea() {
        HeatGuild guild = new HeatGuild();
        CHECKS.due("3: 0 at first", guild.setArea(11, 50), 0);
        CHECKS.due("3: 50 before", guild.setArea(11, 0), 50);
        CHECKS.due("3: 0 before", guild.setArea(11, 7), 0);
        CHECKS.due("3: others stay", guild.setArea(1, 3), 0);
        CHECKS.due("3: load", guild.load(8), 12);
        guild.hour(8);
        CHECKS.due("3: after an hour too", guild.setArea(1, 4), 3);
        CHECKS.due("3: load after it", guild.load(8), 13);
        CHECKS.due("3: the last hour's losses stay", guild.losses(), 2);
    }

    private static void promise3SetAreaWrong() {
        HeatGuild guild = new HeatGuild();
        guild.setArea(5, 10);
        CHECKS.dueIllegalJunctions("3: setArea", junction -> () -> guild.setArea(junction, 5));
        for (int area : new int[] {-1, 51, Integer.MIN_VALUE, Integer.MAX_VALUE}) {
            CHECKS.dueIllegalArgument("3: area " + area, () -> guild.setArea(5, area));
        }
        CHECKS.due("3: nothing has changed", guild.setArea(5, 1), 10);
    }

    private static void promise4AddBoiler() {
        HeatGuild guild = new HeatGuild();
        CHECKS.due("4: first", guild.addBoiler(5, 100, 100), 0);
        CHECKS.due("4: second", guild.addBoiler(1, 1, 1), 1);
        guild.hour(18);
        CHECKS.due("4: after an hour too", guild.addBoiler(2, 50, 50), 2);
        CHECKS.due("4: fourth", guild.addBoiler(1, 1, 1), 3);
        CHECKS.due("4: fired of one added since", guild.fired(3), 0);
    }

    private static void promise4AddBoilerWrong() {
        HeatGuild guild = new HeatGuild();
        for (int steps : new int[] {0, 6, -1, Integer.MIN_VALUE, Integer.MAX_VALUE}) {
            CHECKS.dueIllegalArgument("4: steps " + steps, () -> guild.addBoiler(steps, 1, 1));
        }
        for (int wrong : new int[] {0, 101, -1, Integer.MIN_VALUE, Integer.MAX_VALUE}) {
            CHECKS.dueIllegalArgument("4: power " + wrong, () -> guild.addBoiler(1, wrong, 1));
            CHECKS.dueIllegalArgument("4: cost " + wrong, () -> guild.addBoiler(1, 1, wrong));
        }
        CHECKS.dueThrow("4: no boiler was added", IndexOutOfBoundsException.class, () -> guild.fired(0));
        CHECKS.due("4: the first is still 0", guild.addBoiler(1, 1, 1), 0);
    }

    private static void promise4AddBoilerFull() {
        HeatGuild guild = new HeatGuild();
        for (int number = 0; number < 4; number++) {
            CHECKS.due("4: number", guild.addBoiler(1, 10, 10), number);
        }
        CHECKS.dueIllegalState("4: a fifth", () -> guild.addBoiler(1, 10, 10));
        CHECKS.dueIllegalArgument("4: steps are looked at before the count", () -> guild.addBoiler(6, 10, 10));
        CHECKS.dueIllegalArgument("4: power is looked at before the count", () -> guild.addBoiler(1, 0, 10));
        CHECKS.dueIllegalArgument("4: cost is looked at before the count", () -> guild.addBoiler(1, 10, 101));
        CHECKS.dueThrow("4: there is no fifth", IndexOutOfBoundsException.class, () -> guild.fired(4));
        guild.setArea(1, 50);
        guild.hour(-20);
        CHECKS.due("4: the power is that of four", guild.got(1), 39);
    }

    private static void promise5SetError() {
        HeatGuild guild = new HeatGuild();
        CHECKS.due("5: 0 at first", guild.setError(11, 20), 0);
        CHECKS.due("5: 20 before", guild.setError(11, -20), 20);
        CHECKS.due("5: -20 before", guild.setError(11, 5), -20);
        CHECKS.due("5: others stay", guild.setError(1, 1), 0);
        guild.setArea(11, 10);
        guild.addBoiler(5, 100, 1);
        guild.hour(8);
        CHECKS.due("5: the meter tells 5 too much", guild.meter(11), 15);
        CHECKS.due("5: after an hour too", guild.setError(11, 0), 5);
        CHECKS.due("5: the last hour's meter stays", guild.meter(11), 15);
        CHECKS.due("5: the last hour's suspicion stays", guild.isSuspected(11), true);
    }

    private static void promise5SetErrorWrong() {
        HeatGuild guild = new HeatGuild();
        guild.setError(5, 10);
        CHECKS.dueIllegalJunctions("5: setError", junction -> () -> guild.setError(junction, 5));
        for (int error : new int[] {-21, 21, Integer.MIN_VALUE, Integer.MAX_VALUE}) {
            CHECKS.dueIllegalArgument("5: error " + error, () -> guild.setError(5, error));
        }
        CHECKS.due("5: nothing has changed", guild.setError(5, 1), 10);
    }

    private static void promise6Repair() {
        for (int hours : new int[] {1, 2, 20}) {
            HeatGuild guild = new HeatGuild();
            guild.setArea(11, 10);
            CHECKS.due("6: before the first hour", guild.repair(11, hours), 1);
            for (int hour = 0; hour < hours; hour++) {
                CHECKS.due("6: shut", guild.isOpen(11), false);
                CHECKS.due("6: no load of a shut pipe", guild.hour(8), 0);
            }
            CHECKS.due("6: open after " + hours, guild.isOpen(11), true);
            CHECKS.due("6: load of an open pipe", guild.hour(8), 11);
        }
    }

    private static void promise6RepairCountsHouses() {
        HeatGuild guild = new HeatGuild();
        guild.feed(2, 1, 1);
        guild.feed(3, 2, 1);
        guild.feed(5, 2, 1);
        guild.setArea(1, 1);
        guild.setArea(3, 1);
        guild.setArea(4, 1);
        guild.setArea(5, 1);
        CHECKS.due("6: the house at 6 has no area", guild.repair(6, 1), 0);
        CHECKS.due("6: 3 and 5 are behind 2, which has no area", guild.repair(2, 3), 2);
        CHECKS.due("6: 3 had no heat before", guild.repair(3, 2), 2);
        CHECKS.due("6: all without heat count, not only those behind the pipe", guild.repair(4, 1), 3);
        CHECKS.due("6: and 1 itself", guild.repair(1, 1), 4);
        guild.hour(30);
        CHECKS.due("6: 1 and 4 are open again", guild.repair(6, 1), 2);
        guild.setArea(5, 0);
        guild.hour(10);
        CHECKS.due("6: 5 has no area any more", guild.repair(7, 1), 1);
        guild.hour(10);
        CHECKS.due("6: all others are open again", guild.repair(3, 1), 1);
    }

    private static void promise6RepairWrong() {
        HeatGuild guild = new HeatGuild();
        CHECKS.dueIllegalJunctions("6: repair", junction -> () -> guild.repair(junction, 5));
        for (int hours : new int[] {0, 21, -1, Integer.MIN_VALUE, Integer.MAX_VALUE}) {
            CHECKS.dueIllegalArgument("6: hours " + hours, () -> guild.repair(5, hours));
        }
        CHECKS.due("6: nothing was shut", guild.isOpen(5), true);
        guild.hour(9);
        CHECKS.dueIllegalArgument("6: junction is looked at before the weather", () -> guild.repair(0, 1));
        CHECKS.dueIllegalArgument("6: hours are looked at before the weather", () -> guild.repair(5, 21));
        guild.hour(10);
        guild.repair(5, 2);
        CHECKS.dueIllegalArgument("6: hours are looked at before the valve", () -> guild.repair(5, 0));
    }

    private static void promise6RepairWaitsForAWarmDay() {
        HeatGuild coldFirst = new HeatGuild();
        coldFirst.hour(9);
        CHECKS.dueIllegalState("6: repair after a cold first hour", () -> coldFirst.repair(4, 1));
        HeatGuild guild = new HeatGuild();
        guild.setArea(4, 10);
        guild.hour(30);
        for (int temperature : new int[] {9, 0, -20}) {
            guild.hour(temperature);
            CHECKS.dueIllegalState("6: repair after " + temperature, () -> guild.repair(4, 1));
            CHECKS.due("6: nothing was shut", guild.isOpen(4), true);
        }
        guild.load(30);
        CHECKS.dueIllegalState("6: load is no warm hour", () -> guild.repair(4, 1));
        guild.hour(10);
        guild.load(-20);
        CHECKS.due("6: load is no cold hour", guild.repair(4, 1), 1);
        guild.hour(30);
        CHECKS.due("6: repair after 30", guild.repair(4, 1), 1);
    }

    private static void promise6RepairOfAShutValve() {
        HeatGuild guild = new HeatGuild();
        guild.setArea(4, 10);
        guild.repair(4, 2);
        CHECKS.dueIllegalState("6: twice before an hour", () -> guild.repair(4, 20));
        guild.hour(15);
        CHECKS.dueIllegalState("6: twice after an hour", () -> guild.repair(4, 20));
        guild.hour(15);
        CHECKS.due("6: the second did not make it longer", guild.isOpen(4), true);
        CHECKS.due("6: again once it is open", guild.repair(4, 1), 1);
    }
}
