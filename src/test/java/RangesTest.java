/**
 * The range of each argument, as promises 2 to 17 name it: the lowest and the highest number and those beside them
 * inside are taken and tell in what follows, those beside them outside are refused and change nothing.
 */
public final class RangesTest {
    private static final int MIN = Integer.MIN_VALUE;
    private static final int MAX = Integer.MAX_VALUE;
    private static final int[] HOUSES = {1, 2, 10, 11};
    private static final int[] NO_HOUSES = {MIN, -1, 0, 12, 13, MAX};
    private static final Checks CHECKS = new Checks();
    private static final Twins TWINS = new Twins(CHECKS);

    public static void main(String[] args) {
        promise2Junction();
        promise2From();
        promise2Loss();
        promise3Junction();
        promise3Area();
        promise4Steps();
        promise4Power();
        promise4Cost();
        promise5Junction();
        promise5Error();
        promise6Junction();
        promise6Hours();
        promise7Temperature();
        promise9Temperature();
        promise10Boiler();
        promise11To17Junction();
        CHECKS.finish("RangesTest");
    }

    /** A house at each junction, all fed from 0, with heat enough for all at 8 degrees. */
    private static void housesEverywhere(HeatGuild guild) {
        for (int junction = 1; junction <= 11; junction++) {
            guild.setArea(junction, junction);
            guild.setError(junction, -junction);
        }
        guild.addBoiler(5, 100, 1);
    }

    private static HeatGuild guildWithHousesEverywhere() {
        HeatGuild guild = new HeatGuild();
        housesEverywhere(guild);
        return guild;
    }

    private static void dueRefused(String call, Interview.Call refused) {
        TWINS.dueIllegalArgument(call, RangesTest::housesEverywhere, refused);
    }

    /** "junction: 1 to 11". */
    private static void promise2Junction() {
        for (int junction : HOUSES) {
            HeatGuild guild = guildWithHousesEverywhere();
            int load = guild.load(8);
            CHECKS.due("2: feed junction " + junction, guild.feed(junction, 0, 8), 0);
            CHECKS.due("2: the loss of pipe " + junction, guild.load(8), load + 7);
        }
        for (int junction : NO_HOUSES) {
            dueRefused("2: feed junction " + junction, guild -> guild.feed(junction, 0, 8));
        }
    }

    /** "from: 0 to junction - 1". */
    private static void promise2From() {
        for (int junction = 1; junction <= 11; junction++) {
            int fed = junction;
            HeatGuild guild = guildWithHousesEverywhere();
            int before = 0;
            for (int from = 0; from < junction; from++) {
                CHECKS.due("2: feed " + fed + " from " + from, guild.feed(fed, from, 1), before);
                before = from;
                if (from > 0) {
                    HeatGuild cut = guildWithHousesEverywhere();
                    cut.feed(fed, from, 1);
                    CHECKS.due("2: houses cut off by pipe " + from + ", with " + fed, cut.repair(from, 1), 2);
                }
            }
            CHECKS.due("2: feed " + fed + " from 0 again", guild.feed(fed, 0, 1), before);
            CHECKS.due("2: houses cut off by pipe " + fed, guild.repair(fed, 1), 1);
            for (int from : new int[] {MIN, -2, -1, junction, junction + 1, 11, 12, MAX}) {
                dueRefused("2: feed " + fed + " from " + from, it -> it.feed(fed, from, 1));
            }
        }
    }

    /** "loss: 0 to 20". */
    private static void promise2Loss() {
        for (int loss : new int[] {0, 1, 2, 19, 20}) {
            HeatGuild guild = new HeatGuild();
            CHECKS.due("2: feed with a loss of " + loss, guild.feed(3, 2, loss), 0);
            guild.setArea(3, 1);
            CHECKS.due("2: the load with a loss of " + loss, guild.hour(17), 1 + 1 + loss);
            CHECKS.due("2: the losses", guild.losses(), 1 + loss);
        }
        for (int loss : new int[] {MIN, -2, -1, 21, 22, MAX}) {
            dueRefused("2: feed with a loss of " + loss, guild -> guild.feed(3, 2, loss));
        }
    }

    /** "junction: 1 to 11". */
    private static void promise3Junction() {
        for (int junction : HOUSES) {
            HeatGuild guild = new HeatGuild();
            CHECKS.due("3: setArea of " + junction, guild.setArea(junction, 30), 0);
            CHECKS.due("3: what it was", guild.setArea(junction, 40), 30);
            CHECKS.due("3: no other area", guild.load(8), 41);
        }
        for (int junction : NO_HOUSES) {
            dueRefused("3: setArea of " + junction, guild -> guild.setArea(junction, 30));
        }
    }

    /** "area: 0 to 50". */
    private static void promise3Area() {
        HeatGuild guild = new HeatGuild();
        guild.feed(6, 0, 0);
        int before = 0;
        for (int area : new int[] {0, 1, 2, 48, 49, 50, 0, 50}) {
            CHECKS.due("3: the area before " + area, guild.setArea(6, area), before);
            CHECKS.due("3: the load of an area of " + area, guild.hour(8), area);
            before = area;
        }
        for (int area : new int[] {MIN, -2, -1, 51, 52, MAX}) {
            dueRefused("3: an area of " + area, it -> it.setArea(6, area));
        }
    }

    /** "steps: 1 to 5". */
    private static void promise4Steps() {
        for (int steps : new int[] {1, 2, 4, 5}) {
            HeatGuild guild = guildWithoutBoilers();
            CHECKS.due("4: a boiler of steps " + steps, guild.addBoiler(steps, 7, 10), 0);
            guild.hour(-20);
            CHECKS.due("4: all its steps", guild.fired(0), steps);
            CHECKS.due("4: all its heat", guild.cost(), 10 * 7 * steps);
        }
        for (int steps : new int[] {MIN, -1, 0, 6, 7, MAX}) {
            dueRefused("4: a boiler of steps " + steps, guild -> guild.addBoiler(steps, 7, 10));
        }
    }

    /** "power: 1 to 100, of each step". */
    private static void promise4Power() {
        for (int power : new int[] {1, 2, 99, 100}) {
            HeatGuild guild = guildWithoutBoilers();
            CHECKS.due("4: a boiler of power " + power, guild.addBoiler(5, power, 10), 0);
            guild.hour(-20);
            CHECKS.due("4: all its heat", guild.cost(), 10 * 5 * power);
        }
        for (int power : new int[] {MIN, -1, 0, 101, 102, MAX}) {
            dueRefused("4: a boiler of power " + power, guild -> guild.addBoiler(2, power, 10));
        }
    }

    /** "cost: 1 to 100". */
    private static void promise4Cost() {
        for (int cost : new int[] {1, 2, 99, 100}) {
            HeatGuild guild = guildWithoutBoilers();
            CHECKS.due("4: a boiler of cost " + cost, guild.addBoiler(3, 3, cost), 0);
            guild.hour(-20);
            CHECKS.due("4: all its heat", guild.cost(), 9 * cost);
        }
        for (int cost : new int[] {MIN, -1, 0, 101, 102, MAX}) {
            dueRefused("4: a boiler of cost " + cost, guild -> guild.addBoiler(2, 3, cost));
        }
    }

    /** A net that asks for more than any boiler gives. */
    private static HeatGuild guildWithoutBoilers() {
        HeatGuild guild = new HeatGuild();
        for (int junction = 1; junction <= 11; junction++) {
            guild.setArea(junction, 50);
        }
        return guild;
    }

    /** "junction: 1 to 11". */
    private static void promise5Junction() {
        for (int junction : HOUSES) {
            HeatGuild guild = guildWithHousesEverywhere();
            CHECKS.due("5: setError of " + junction, guild.setError(junction, 9), -junction);
            CHECKS.due("5: what it was", guild.setError(junction, 5), 9);
            guild.hour(8);
            for (int other = 1; other <= 11; other++) {
                CHECKS.due("5: meter " + other, guild.meter(other), other == junction ? other + 5 : 0);
            }
        }
        for (int junction : NO_HOUSES) {
            dueRefused("5: setError of " + junction, guild -> guild.setError(junction, 9));
        }
    }

    /** "error: -20 to 20". */
    private static void promise5Error() {
        HeatGuild guild = guildWithHousesEverywhere();
        int before = -6;
        for (int error : new int[] {-20, -19, -1, 0, 1, 19, 20, -20, 20}) {
            CHECKS.due("5: the error before " + error, guild.setError(6, error), before);
            guild.hour(8);
            CHECKS.due("5: the meter with an error of " + error, guild.meter(6), 6 + error);
            before = error;
        }
        for (int error : new int[] {MIN, -22, -21, 21, 22, MAX}) {
            dueRefused("5: an error of " + error, it -> it.setError(6, error));
        }
    }

    /** "junction: 1 to 11". */
    private static void promise6Junction() {
        for (int junction : HOUSES) {
            HeatGuild guild = guildWithHousesEverywhere();
            CHECKS.due("6: repair of " + junction, guild.repair(junction, 5), 1);
            for (int other = 1; other <= 11; other++) {
                CHECKS.due("6: the valve of " + other, guild.isOpen(other), other != junction);
            }
        }
        for (int junction : NO_HOUSES) {
            dueRefused("6: repair of " + junction, guild -> guild.repair(junction, 5));
        }
    }

    /** "hours: 1 to 20". */
    private static void promise6Hours() {
        for (int hours : new int[] {1, 2, 19, 20}) {
            HeatGuild guild = guildWithHousesEverywhere();
            CHECKS.due("6: repair for " + hours, guild.repair(6, hours), 1);
            for (int hour = 1; hour <= hours; hour++) {
                CHECKS.due("6: shut before hour " + hour + " of " + hours, guild.isOpen(6), false);
                guild.hour(8);
                CHECKS.due("6: shut in hour " + hour + " of " + hours, guild.got(6), 0);
            }
            CHECKS.due("6: open after " + hours, guild.isOpen(6), true);
            guild.hour(8);
            CHECKS.due("6: heat after " + hours, guild.got(6), 6);
        }
        for (int hours : new int[] {MIN, -1, 0, 21, 22, MAX}) {
            dueRefused("6: repair for " + hours, guild -> guild.repair(6, hours));
        }
    }

    /** "temperature: -20 to 30". */
    private static void promise7Temperature() {
        HeatGuild guild = new HeatGuild();
        guild.feed(6, 0, 3);
        guild.setArea(6, 10);
        int hours = 0;
        for (int temperature : new int[] {-20, -19, -1, 0, 1, 29, 30, -20}) {
            int load = temperature < 18 ? 18 - temperature + 3 : 0;
            CHECKS.due("7: hour at " + temperature, guild.hour(temperature), load);
            CHECKS.due("8: hours after it", guild.hours(), ++hours);
        }
        for (int temperature : new int[] {MIN, -22, -21, 31, 32, MAX}) {
            dueRefused("7: hour at " + temperature, it -> it.hour(temperature));
        }
    }

    /** "temperature: -20 to 30". */
    private static void promise9Temperature() {
        HeatGuild guild = new HeatGuild();
        guild.feed(6, 0, 3);
        guild.setArea(6, 10);
        for (int temperature : new int[] {-20, -19, -1, 0, 1, 29, 30, -20}) {
            int load = temperature < 18 ? 18 - temperature + 3 : 0;
            CHECKS.due("9: load at " + temperature, guild.load(temperature), load);
            CHECKS.due("9: it is no hour", guild.hours(), 0);
        }
        for (int temperature : new int[] {MIN, -22, -21, 31, 32, MAX}) {
            dueRefused("9: load at " + temperature, it -> it.load(temperature));
        }
    }

    /** "boiler: its number", and "boilers are numbered from 0". */
    private static void promise10Boiler() {
        for (int count = 0; count <= 4; count++) {
            int boilers = count;
            HeatGuild guild = new HeatGuild();
            addBoilers(guild, boilers);
            for (int boiler = 0; boiler < boilers; boiler++) {
                CHECKS.due("10: fired of " + boiler + " of " + boilers, guild.fired(boiler), 0);
            }
            for (int boiler : new int[] {MIN, -2, -1, boilers, boilers + 1, 5, MAX}) {
                TWINS.dueNoSuchBoiler("10: fired of " + boiler + " of " + boilers, it -> addBoilers(it, boilers),
                    it -> it.fired(boiler));
            }
        }
    }

    private static void addBoilers(HeatGuild guild, int count) {
        for (int boiler = 0; boiler < count; boiler++) {
            CHECKS.due("4: number", guild.addBoiler(1, 10, 50 - boiler), boiler);
        }
    }

    /** "junction: 1 to 11" of the questions. */
    private static void promise11To17Junction() {
        HeatGuild guild = guildWithHousesEverywhere();
        guild.repair(2, 2);
        guild.hour(8);
        guild.setError(1, 0);
        for (int junction : HOUSES) {
            boolean heat = junction != 2;
            CHECKS.due("11: got of " + junction, guild.got(junction), heat ? junction : 0);
            CHECKS.due("12: meter of " + junction, guild.meter(junction), 0);
            CHECKS.due("13: isSuspected of " + junction, guild.isSuspected(junction), heat);
            CHECKS.due("15: bill of " + junction, guild.bill(junction), heat ? 2 * junction : -3);
            CHECKS.due("17: isOpen of " + junction, guild.isOpen(junction), heat);
        }
        for (int junction : NO_HOUSES) {
            dueRefused("11: got of " + junction, it -> it.got(junction));
            dueRefused("12: meter of " + junction, it -> it.meter(junction));
            dueRefused("13: isSuspected of " + junction, it -> it.isSuspected(junction) ? 1 : 0);
            dueRefused("15: bill of " + junction, it -> it.bill(junction));
            dueRefused("17: isOpen of " + junction, it -> it.isOpen(junction) ? 1 : 0);
        }
    }
}
