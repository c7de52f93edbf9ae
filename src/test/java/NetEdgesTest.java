/** The edges in "Terms" that have to do with pipes, houses, the weather, the load and repairs. */
public final class NetEdgesTest {
    private static final Checks CHECKS = new Checks();
    private static final Twins TWINS = new Twins(CHECKS);

    public static void main(String[] args) {
        atFirst();
        longestAndWidestTree();
        demandOfEachAreaAtEachTemperature();
        demandIsZeroFrom18();
        demandIsRoundedUp();
        heatNeedsAllValves();
        noDemandWithoutHeat();
        pipeCarriesForADemandAboveZero();
        pipeCarriesNothingBehindAShutValve();
        loadIsTheSum();
        loadIsThatOfTheNextHour();
        hoursAreCountedFrom0();
        feedUntilAnHourHasPassed();
        feedOfAShutPipe();
        atMost4Boilers();
        repairNeedsAWarmLastHour();
        repairBeforeAnHourHasPassed();
        repairOfAShutValve();
        repairLastsItsHours();
        repairCountsHousesWithAnArea();
        repairCountsUpToAllHouses();
        CHECKS.finish("NetEdgesTest");
    }

    /** 0 - 1 - 2 - .. - 11, each pipe with the loss. */
    private static HeatGuild line(int loss) {
        HeatGuild guild = new HeatGuild();
        for (int junction = 1; junction <= 11; junction++) {
            guild.feed(junction, junction - 1, loss);
        }
        return guild;
    }

    private static void plentyOfHeat(HeatGuild guild) {
        guild.addBoiler(5, 100, 1);
        guild.addBoiler(5, 100, 1);
        guild.addBoiler(5, 100, 1);
        guild.addBoiler(5, 100, 1);
    }

    private static int roundedUp(int tenths) {
        int units = 0;
        while (units * 10 < tenths) {
            units++;
        }
        return units;
    }

    /** "Fed .. at first from 0, by a pipe that .. has a loss .. at first 1"; "an area from 0 to 50, 0 at first". */
    private static void atFirst() {
        for (int junction = 1; junction <= 11; junction++) {
            HeatGuild guild = new HeatGuild();
            CHECKS.due("3: area at first of " + junction, guild.setArea(junction, 1), 0);
            CHECKS.due("5: error at first of " + junction, guild.setError(junction, 0), 0);
            CHECKS.due("1: loss at first of " + junction, guild.load(17), 2);
            CHECKS.due("1: source at first of " + junction, guild.feed(junction, 0, 0), 0);
            CHECKS.due("1: no other pipe has a loss", guild.load(17), 1);
            for (int other = 1; other <= 11; other++) {
                CHECKS.due("17: open at first", guild.isOpen(other), true);
                CHECKS.due("6: none of the others is behind", guild.repair(other, 1), other < junction ? 0 : 1);
            }
        }
    }

    /** "Junctions are 0 to 11", "from a junction with a lower number": each of 0 to 11 in one line, or all from 0. */
    private static void longestAndWidestTree() {
        for (int house = 1; house <= 11; house++) {
            HeatGuild longest = line(20);
            HeatGuild widest = new HeatGuild();
            longest.setArea(house, 1);
            widest.setArea(house, 1);
            plentyOfHeat(longest);
            CHECKS.due("7: all pipes before the house at " + house, longest.hour(17), 1 + 20 * house);
            CHECKS.due("14: their losses", longest.losses(), 20 * house);
            for (int pipe = 1; pipe <= 11; pipe++) {
                int due = pipe <= house ? 1 + 20 * (house - pipe) : 0;
                CHECKS.due("12: meter " + pipe + " before the house at " + house, longest.meter(pipe), due);
            }
            CHECKS.due("9: no pipe but its own to the house at " + house, widest.load(17), 2);
            CHECKS.due("7: as the load told", widest.hour(17), 2);
        }
    }

    /** "Its area times what the temperature is below 18, divided by 10, rounded up; 0 at 18 and above". */
    private static void demandOfEachAreaAtEachTemperature() {
        for (int temperature = -20; temperature <= 30; temperature++) {
            HeatGuild guild = new HeatGuild();
            guild.feed(1, 0, 0);
            guild.addBoiler(2, 100, 1);
            for (int area = 0; area <= 50; area++) {
                int due = temperature < 18 ? roundedUp(area * (18 - temperature)) : 0;
                guild.setArea(1, area);
                String told = " of an area of " + area + " at " + temperature;
                CHECKS.due("9: load" + told, guild.load(temperature), due);
                CHECKS.due("7: load" + told, guild.hour(temperature), due);
                CHECKS.due("11: got" + told, guild.got(1), due);
            }
        }
    }

    /** "0 at 18 and above". */
    private static void demandIsZeroFrom18() {
        int[] temperatures = {16, 17, 18, 19, 30};
        int[] smallest = {1, 1, 0, 0, 0};
        int[] largest = {10, 5, 0, 0, 0};
        for (int i = 0; i < temperatures.length; i++) {
            HeatGuild guild = new HeatGuild();
            guild.setArea(1, 1);
            guild.setArea(2, 50);
            plentyOfHeat(guild);
            int load = smallest[i] + largest[i];
            int losses = load > 0 ? 2 : 0;
            String at = " at " + temperatures[i];
            CHECKS.due("7: load" + at, guild.hour(temperatures[i]), load + losses);
            CHECKS.due("11: got with an area of 1" + at, guild.got(1), smallest[i]);
            CHECKS.due("11: got with an area of 50" + at, guild.got(2), largest[i]);
            CHECKS.due("14: losses" + at, guild.losses(), losses);
            CHECKS.due("10: fired" + at, guild.fired(0), load > 0 ? 1 : 0);
            CHECKS.due("15: bill" + at, guild.bill(2), 2 * largest[i]);
        }
    }

    /** "Divided by 10, rounded up": each house for itself. */
    private static void demandIsRoundedUp() {
        int[] areas = {9, 10, 11, 19, 20, 21, 29, 30, 31};
        int[] due = {1, 1, 2, 2, 2, 3, 3, 3, 4};
        HeatGuild guild = new HeatGuild();
        guild.addBoiler(5, 100, 1);
        for (int i = 0; i < areas.length; i++) {
            guild.setArea(i + 1, areas[i]);
        }
        CHECKS.due("7: load at 17", guild.hour(17), 1 + 1 + 2 + 2 + 2 + 3 + 3 + 3 + 4 + 9);
        for (int i = 0; i < areas.length; i++) {
            CHECKS.due("11: got with an area of " + areas[i] + " at 17", guild.got(i + 1), due[i]);
        }
    }

    /** "A house has heat in an hour if all valves of the pipes between it and junction 0 are open". */
    private static void heatNeedsAllValves() {
        for (int shut = 1; shut <= 11; shut++) {
            HeatGuild guild = line(0);
            for (int junction = 1; junction <= 11; junction++) {
                guild.setArea(junction, 1);
            }
            plentyOfHeat(guild);
            CHECKS.due("6: houses behind valve " + shut, guild.repair(shut, 1), 12 - shut);
            CHECKS.due("7: load before valve " + shut, guild.hour(8), shut - 1);
            for (int house = 1; house <= 11; house++) {
                int due = house < shut ? 1 : 0;
                CHECKS.due("11: got " + house + " with valve " + shut + " shut", guild.got(house), due);
            }
            CHECKS.due("7: load when valve " + shut + " is open again", guild.hour(8), 11);
        }
    }

    /** "0 .. for a house that has no heat", however cold it is and however many valves are shut. */
    private static void noDemandWithoutHeat() {
        HeatGuild guild = new HeatGuild();
        guild.feed(2, 1, 5);
        guild.setArea(2, 50);
        plentyOfHeat(guild);
        guild.repair(1, 3);
        guild.repair(2, 2);
        CHECKS.due("7: both valves shut", guild.hour(-20), 0);
        CHECKS.due("7: both valves shut, the last hour of 2", guild.hour(-20), 0);
        CHECKS.due("17: its own valve is open", guild.isOpen(2), true);
        CHECKS.due("7: the valve before it shut", guild.hour(-20), 0);
        CHECKS.due("7: none shut", guild.hour(-20), 196);
        guild.hour(10);
        guild.repair(2, 1);
        CHECKS.due("7: its own valve shut", guild.hour(-20), 0);
        CHECKS.due("14: no losses", guild.losses(), 0);
        guild.hour(10);
        guild.repair(3, 1);
        CHECKS.due("7: a valve beside it shut", guild.hour(-20), 196);
    }

    /** "Some house behind it, that at its own junction included, has a demand above 0; only then it has its loss". */
    private static void pipeCarriesForADemandAboveZero() {
        HeatGuild guild = new HeatGuild();
        guild.feed(1, 0, 2);
        guild.feed(2, 1, 3);
        guild.feed(3, 2, 7);
        CHECKS.due("9: no house", guild.load(-20), 0);
        guild.setArea(2, 1);
        CHECKS.due("9: a house at its own junction", guild.load(17), 1 + 2 + 3);
        CHECKS.due("9: the same without a demand", guild.load(18), 0);
        guild.setArea(2, 0);
        guild.setArea(3, 1);
        CHECKS.due("9: a house two pipes behind", guild.load(17), 1 + 2 + 3 + 7);
        CHECKS.due("9: the same without a demand", guild.load(18), 0);
        guild.setArea(3, 0);
        guild.setArea(1, 1);
        CHECKS.due("9: a house before it", guild.load(17), 1 + 2);
        guild.setArea(3, 1);
        guild.setError(2, 5);
        plentyOfHeat(guild);
        guild.hour(17);
        CHECKS.due("12: carries", guild.meter(2), 1 + 7 + 5);
        guild.setArea(3, 0);
        guild.hour(17);
        CHECKS.due("12: carries no more", guild.meter(2), 0);
        CHECKS.due("14: only the loss of pipe 1", guild.losses(), 2);
    }

    /** "If its valve and all valves between it and junction 0 are open". */
    private static void pipeCarriesNothingBehindAShutValve() {
        for (int shut = 1; shut <= 11; shut++) {
            HeatGuild guild = line(2);
            for (int junction = 1; junction <= 11; junction++) {
                guild.setArea(junction, 1);
                guild.setError(junction, 9);
            }
            plentyOfHeat(guild);
            guild.repair(shut, 1);
            guild.hour(17);
            CHECKS.due("14: losses with valve " + shut + " shut", guild.losses(), 2 * (shut - 1));
            for (int pipe = 1; pipe <= 11; pipe++) {
                int due = pipe < shut ? shut - pipe + 2 * (shut - 1 - pipe) + 9 : 0;
                CHECKS.due("12: meter " + pipe + " with valve " + shut + " shut", guild.meter(pipe), due);
            }
        }
    }

    /** "The sum of all demands and of the losses of all pipes that carry heat": nothing at all, and the most of all. */
    private static void loadIsTheSum() {
        HeatGuild guild = line(20);
        plentyOfHeat(guild);
        CHECKS.due("7: nothing at all", guild.hour(-20), 0);
        for (int junction = 1; junction <= 11; junction++) {
            guild.setArea(junction, 50);
        }
        CHECKS.due("7: the most of all", guild.hour(-20), 11 * 190 + 11 * 20);
        CHECKS.due("14: its losses", guild.losses(), 220);
        CHECKS.due("11: all but the losses of 2000 are for the houses", guild.got(9), 190);
        CHECKS.due("11: the rest", guild.got(10), 2000 - 220 - 9 * 190);
        CHECKS.due("11: nothing is left", guild.got(11), 0);
        CHECKS.due("7: the least of all", guild.hour(17), 11 * 5 + 220);
    }

    /** "What the load would be in the next hour": a valve with one hour left is shut in it. */
    private static void loadIsThatOfTheNextHour() {
        for (int temperature : new int[] {-20, 17, 18}) {
            HeatGuild guild = line(1);
            guild.setArea(3, 10);
            guild.setArea(6, 20);
            guild.repair(5, 2);
            for (int hour = 0; hour < 4; hour++) {
                guild.setArea(6, 20 + hour);
                int load = guild.load(temperature);
                CHECKS.due("9: load as in hour " + hour + " at " + temperature, guild.hour(temperature), load);
            }
        }
    }

    /** "Hours are numbered from 0": before the first none has passed. */
    private static void hoursAreCountedFrom0() {
        HeatGuild guild = new HeatGuild();
        CHECKS.due("8: none", guild.hours(), 0);
        guild.load(0);
        CHECKS.dueIllegalArgument("7: hour 31", () -> guild.hour(31));
        CHECKS.due("8: still none", guild.hours(), 0);
        for (int hour = 1; hour <= 3; hour++) {
            guild.hour(30);
            CHECKS.due("8: one more", guild.hours(), hour);
        }
    }

    /** "IllegalStateException if an hour has passed". */
    private static void feedUntilAnHourHasPassed() {
        HeatGuild guild = new HeatGuild();
        guild.load(0);
        CHECKS.dueIllegalArgument("7: hour 31", () -> guild.hour(31));
        CHECKS.due("2: no hour has passed", guild.feed(2, 1, 3), 0);
        for (int hours = 1; hours <= 3; hours++) {
            int passed = hours;
            TWINS.dueIllegalState("2: feed after hours " + hours, it -> letPass(it, passed), it -> it.feed(2, 0, 3));
        }
    }

    private static void letPass(HeatGuild guild, int hours) {
        guild.feed(2, 1, 3);
        guild.setArea(2, 10);
        for (int hour = 0; hour < hours; hour++) {
            guild.hour(10);
        }
    }

    /** A pipe "bears the number of the junction", so that its valve goes with it and stays shut. */
    private static void feedOfAShutPipe() {
        HeatGuild guild = new HeatGuild();
        guild.setArea(3, 10);
        guild.repair(3, 1);
        CHECKS.due("2: a shut pipe", guild.feed(3, 2, 5), 0);
        CHECKS.due("17: it is still shut", guild.isOpen(3), false);
        CHECKS.due("9: no heat yet", guild.load(8), 0);
        CHECKS.dueIllegalState("6: it is still under repair", () -> guild.repair(3, 20));
        guild.hour(10);
        CHECKS.due("17: it is open", guild.isOpen(3), true);
        CHECKS.due("9: fed from 2", guild.load(8), 16);
    }

    /** "There are at most 4", "IllegalStateException if there are 4". */
    private static void atMost4Boilers() {
        for (int count = 0; count <= 4; count++) {
            int boilers = count;
            HeatGuild guild = new HeatGuild();
            addBoilers(guild, boilers);
            if (boilers < 4) {
                CHECKS.due("4: one more than " + boilers, guild.addBoiler(1, 1, 1), boilers);
            } else {
                TWINS.dueIllegalState("4: one more than 4", it -> addBoilers(it, boilers), it -> it.addBoiler(1, 1, 1));
            }
        }
    }

    private static void addBoilers(HeatGuild guild, int count) {
        guild.setArea(1, 50);
        for (int boiler = 0; boiler < count; boiler++) {
            guild.addBoiler(1, 10, 20);
        }
    }

    /** "Only if the temperature of the last hour was at least 10". */
    private static void repairNeedsAWarmLastHour() {
        for (int temperature = -20; temperature <= 30; temperature++) {
            int last = temperature;
            if (last < 10) {
                TWINS.dueIllegalState("6: repair after " + last, it -> warmThen(it, last), it -> it.repair(4, 2));
                TWINS.dueIllegalState("6: repair after " + last + " alone", it -> it.hour(last), it -> it.repair(4, 2));
            } else {
                HeatGuild guild = new HeatGuild();
                coldThen(guild, last);
                CHECKS.due("6: repair after " + last, guild.repair(4, 2), 1);
                CHECKS.due("17: it is shut", guild.isOpen(4), false);
            }
        }
    }

    private static void warmThen(HeatGuild guild, int last) {
        guild.setArea(4, 10);
        guild.hour(30);
        guild.hour(10);
        guild.hour(last);
        guild.load(30);
    }

    private static void coldThen(HeatGuild guild, int last) {
        guild.setArea(4, 10);
        guild.hour(-20);
        guild.hour(9);
        guild.hour(last);
        guild.load(-20);
    }

    /** "Or no hour has passed". */
    private static void repairBeforeAnHourHasPassed() {
        HeatGuild guild = new HeatGuild();
        guild.load(-20);
        CHECKS.dueIllegalArgument("7: hour -21", () -> guild.hour(-21));
        for (int junction = 1; junction <= 11; junction++) {
            CHECKS.due("6: no hour has passed", guild.repair(junction, 1), 0);
        }
        guild.hour(9);
        for (int junction = 1; junction <= 11; junction++) {
            CHECKS.due("17: open again", guild.isOpen(junction), true);
            int pipe = junction;
            CHECKS.dueIllegalState("6: a cold hour has passed", () -> guild.repair(pipe, 1));
        }
    }

    /** "IllegalStateException if its valve is shut": until its last hour has passed. */
    private static void repairOfAShutValve() {
        for (int passed = 0; passed <= 2; passed++) {
            int hours = passed;
            TWINS.dueIllegalState("6: repair with hours left: " + (3 - hours), it -> repairThen(it, hours),
                it -> it.repair(4, 20));
        }
        for (int passed = 3; passed <= 4; passed++) {
            HeatGuild guild = new HeatGuild();
            repairThen(guild, passed);
            CHECKS.due("6: repair with no hour left", guild.repair(4, 20), 1);
        }
        HeatGuild guild = new HeatGuild();
        guild.feed(5, 4, 1);
        repairThen(guild, 0);
        CHECKS.due("6: repair of an open pipe behind a shut valve", guild.repair(5, 1), 1);
        CHECKS.due("6: repair of an open pipe beside a shut valve", guild.repair(3, 1), 1);
    }

    private static void repairThen(HeatGuild guild, int hours) {
        guild.setArea(4, 10);
        guild.repair(4, 3);
        for (int hour = 0; hour < hours; hour++) {
            guild.hour(10);
        }
    }

    /** "Its valve is shut for the next hours": each number of hours, begun before the first hour and later. */
    private static void repairLastsItsHours() {
        for (int before = 0; before <= 1; before++) {
            for (int hours = 1; hours <= 20; hours++) {
                HeatGuild guild = new HeatGuild();
                guild.setArea(4, 10);
                if (before == 1) {
                    guild.hour(10);
                }
                guild.repair(4, hours);
                int shut = 0;
                while (!guild.isOpen(4) && shut <= 20) {
                    CHECKS.due("7: no load of a shut pipe", guild.hour(8), 0);
                    shut++;
                }
                CHECKS.due("17: hours that it was shut", shut, hours);
                CHECKS.due("7: the load of an open pipe", guild.hour(8), 11);
            }
        }
    }

    /** "How many houses with an area above 0 have no heat then". */
    private static void repairCountsHousesWithAnArea() {
        int[] areas = {0, 1, 50, 0, 2};
        int[] due = {0, 1, 1, 0, 1};
        for (int i = 0; i < areas.length; i++) {
            HeatGuild guild = new HeatGuild();
            guild.feed(5, 3, 1);
            guild.setArea(4, 10);
            guild.setArea(3, areas[i]);
            CHECKS.due("6: its own house has an area of " + areas[i], guild.repair(3, 1), due[i]);
            guild.setArea(5, areas[i]);
            CHECKS.due("6: the house behind it has too", guild.repair(1, 1), 2 * due[i]);
            guild.setArea(3, 0);
            CHECKS.due("6: only the house behind it has", guild.repair(2, 1), due[i]);
        }
    }

    /** "How many houses": none, and up to all 11, with those whose valves were shut before. */
    private static void repairCountsUpToAllHouses() {
        HeatGuild guild = new HeatGuild();
        for (int junction = 1; junction <= 11; junction++) {
            guild.setArea(junction, 1);
        }
        for (int junction = 11; junction >= 1; junction--) {
            CHECKS.due("6: repair of " + junction, guild.repair(junction, junction), 12 - junction);
        }
        for (int hours = 1; hours <= 10; hours++) {
            guild.hour(10);
            CHECKS.due("6: repairs of " + hours + " hours are over, 1 is shut again", guild.repair(1, 1), 12 - hours);
        }
        guild.hour(10);
        CHECKS.due("6: all others are over", guild.repair(2, 1), 1);
    }
}
