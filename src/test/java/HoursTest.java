/** Promises 7 to 9: hour, hours, load. */
public final class HoursTest {
    private static final Checks CHECKS = new Checks();

    public static void main(String[] args) {
        promise7HourReturnsTheLoad();
        promise7HourRoundsEachHouseUp();
        promise7HourAndShutValves();
        promise7HourWrong();
        promise8Hours();
        promise9Load();
        promise9LoadChangesNothing();
        promise9LoadWrong();
        CHECKS.finish("HoursTest");
    }

    private static HeatGuild lineOfThree() {
        HeatGuild guild = new HeatGuild();
        guild.feed(1, 0, 2);
        guild.feed(2, 1, 3);
        guild.feed(3, 2, 5);
        return guild;
    }

    private static void promise7HourReturnsTheLoad() {
        HeatGuild guild = lineOfThree();
        guild.setArea(2, 50);
        CHECKS.due("7: -20, pipe 3 carries nothing", guild.hour(-20), 195);
        CHECKS.due("7: 17", guild.hour(17), 10);
        CHECKS.due("7: 18", guild.hour(18), 0);
        CHECKS.due("7: 19", guild.hour(19), 0);
        CHECKS.due("7: 30", guild.hour(30), 0);
        guild.setArea(3, 1);
        CHECKS.due("7: 17, a demand of 1 behind all pipes", guild.hour(17), 16);
        guild.setArea(2, 0);
        CHECKS.due("7: 17, the same pipes with the far house alone", guild.hour(17), 11);
        guild.addBoiler(1, 1, 1);
        CHECKS.due("7: the load is no less for want of power", guild.hour(17), 11);
    }

    private static void promise7HourRoundsEachHouseUp() {
        HeatGuild guild = new HeatGuild();
        guild.feed(1, 0, 0);
        guild.feed(2, 0, 0);
        guild.setArea(1, 1);
        CHECKS.due("7: 1 / 10", guild.hour(17), 1);
        CHECKS.due("7: 9 / 10", guild.hour(9), 1);
        CHECKS.due("7: 10 / 10", guild.hour(8), 1);
        CHECKS.due("7: 11 / 10", guild.hour(7), 2);
        CHECKS.due("7: 18 / 10", guild.hour(0), 2);
        CHECKS.due("7: 38 / 10", guild.hour(-20), 4);
        guild.setArea(2, 11);
        CHECKS.due("7: 11 / 10 and 121 / 10", guild.hour(7), 15);
    }

    private static void promise7HourAndShutValves() {
        HeatGuild guild = lineOfThree();
        guild.setArea(1, 10);
        guild.setArea(3, 10);
        guild.repair(2, 2);
        CHECKS.due("7: 3 has no heat, for want of valve 2", guild.hour(8), 12);
        CHECKS.due("7: the second hour", guild.hour(8), 12);
        CHECKS.due("7: open again", guild.hour(8), 30);
        guild.hour(20);
        guild.repair(3, 1);
        CHECKS.due("7: nothing is behind pipe 2", guild.hour(8), 12);
        guild.hour(20);
        guild.repair(1, 1);
        CHECKS.due("7: nothing at all", guild.hour(8), 0);
    }

    private static void promise7HourWrong() {
        HeatGuild guild = lineOfThree();
        guild.setArea(1, 10);
        guild.addBoiler(5, 100, 1);
        guild.repair(2, 1);
        for (int temperature : new int[] {-21, 31, Integer.MIN_VALUE, Integer.MAX_VALUE}) {
            CHECKS.dueIllegalArgument("7: hour " + temperature, () -> guild.hour(temperature));
        }
        CHECKS.due("7: no hour has passed", guild.hours(), 0);
        CHECKS.due("7: no bill was made", guild.bill(1), 0);
        CHECKS.due("7: no repair has ended", guild.isOpen(2), false);
    }

    private static void promise8Hours() {
        HeatGuild guild = new HeatGuild();
        for (int hour = 0; hour < 100; hour++) {
            CHECKS.due("8: hours", guild.hours(), hour);
            guild.hour(hour % 51 - 20);
            guild.load(0);
        }
        CHECKS.due("8: asking does not let one pass", guild.hours(), 100);
    }

    private static void promise9Load() {
        HeatGuild guild = lineOfThree();
        guild.setArea(3, 10);
        for (int temperature = -20; temperature <= 30; temperature++) {
            int due = temperature < 18 ? 18 - temperature + 10 : 0;
            CHECKS.due("9: load at " + temperature, guild.load(temperature), due);
        }
        guild.repair(2, 1);
        CHECKS.due("9: with the valves of the next hour", guild.load(8), 0);
        guild.hour(20);
        CHECKS.due("9: the valve opens for the next hour", guild.load(8), 20);
    }

    private static void promise9LoadChangesNothing() {
        HeatGuild guild = lineOfThree();
        guild.setArea(3, 10);
        guild.addBoiler(5, 10, 7);
        guild.hour(8);
        for (int temperature : new int[] {-20, 18}) {
            guild.load(temperature);
            CHECKS.due("9: hours stay", guild.hours(), 1);
            CHECKS.due("9: losses stay", guild.losses(), 10);
            CHECKS.due("9: got stays", guild.got(3), 10);
            CHECKS.due("9: the meter stays", guild.meter(1), 18);
            CHECKS.due("9: fired stays", guild.fired(0), 2);
            CHECKS.due("9: the bill stays", guild.bill(3), 20);
            CHECKS.due("9: the cost stays", guild.cost(), 140);
        }
        CHECKS.due("9: the hour after it is its own", guild.hour(8), 20);
        CHECKS.due("9: losses of that hour", guild.losses(), 10);
    }

    private static void promise9LoadWrong() {
        HeatGuild guild = new HeatGuild();
        for (int temperature : new int[] {-21, 31, Integer.MIN_VALUE, Integer.MAX_VALUE}) {
            CHECKS.dueIllegalArgument("9: load " + temperature, () -> guild.load(temperature));
        }
        CHECKS.due("9: -20", guild.load(-20), 0);
        CHECKS.due("9: 30", guild.load(30), 0);
    }
}
