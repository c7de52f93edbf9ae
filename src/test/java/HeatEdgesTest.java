/** The edges in "Terms" that have to do with boilers and with what the houses get if there is too little heat. */
public final class HeatEdgesTest {
    private static final Checks CHECKS = new Checks();

    public static void main(String[] args) {
        asFewStepsAsAreEnough();
        stepsOfEachBoilerAndLoad();
        orderOfTwoCosts();
        orderOfTheSameCost();
        boilerThatIsAddedSince();
        nothingIsFiredWithoutALoad();
        whatIsNotUsedCostsNothing();
        allGiveLessThanTheLoad();
        servedByRisingNumbers();
        nothingIfTheLossesAreAsMuchOrMore();
        wholeLossesEvenThen();
        noBoilers();
        lastHourOfANewObject();
        CHECKS.finish("HeatEdgesTest");
    }

    /** A house at junction 1 with no loss before it: the load at 8 degrees is its area. */
    private static HeatGuild houseAlone(int area) {
        HeatGuild guild = new HeatGuild();
        guild.feed(1, 0, 0);
        guild.setArea(1, area);
        return guild;
    }

    /** Houses at 2, 5 and 9 with areas 10, 20 and 30, 9 behind 5; the losses are 4, 6 and 8, the load at 8 is 78. */
    private static HeatGuild threeHouses() {
        HeatGuild guild = new HeatGuild();
        guild.feed(2, 0, 4);
        guild.feed(5, 0, 6);
        guild.feed(9, 5, 8);
        guild.setArea(2, 10);
        guild.setArea(5, 20);
        guild.setArea(9, 30);
        return guild;
    }

    /** "Each with as few steps as are enough for what is left of the load, but at most all". */
    private static void asFewStepsAsAreEnough() {
        int[] loads = {0, 1, 6, 7, 8, 13, 14, 15, 20, 21, 22, 27, 28, 29, 34, 35, 36, 50};
        int[] steps = {0, 1, 1, 1, 2, 2, 2, 3, 3, 3, 4, 4, 4, 5, 5, 5, 5, 5};
        for (int i = 0; i < loads.length; i++) {
            HeatGuild guild = houseAlone(loads[i]);
            guild.addBoiler(5, 7, 3);
            guild.addBoiler(2, 50, 4);
            guild.hour(8);
            CHECKS.due("10: fired for a load of " + loads[i], guild.fired(0), steps[i]);
            CHECKS.due("10: fired of the other for a load of " + loads[i], guild.fired(1), loads[i] > 35 ? 1 : 0);
            int first = Math.min(35, loads[i]);
            CHECKS.due("16: cost of a load of " + loads[i], guild.cost(), 3 * first + 4 * (loads[i] - first));
        }
    }

    /** The same for boilers of each number of steps, and powers at and beside the lowest and the highest. */
    private static void stepsOfEachBoilerAndLoad() {
        for (int steps = 1; steps <= 5; steps++) {
            for (int power : new int[] {1, 2, 19, 37, 38, 39, 99, 100}) {
                HeatGuild guild = houseAlone(0);
                guild.addBoiler(steps, power, 1);
                for (int area = 0; area <= 50; area++) {
                    guild.setArea(1, area);
                    int load = guild.hour(-20);
                    int due = 0;
                    while (due < steps && due * power < load) {
                        due++;
                    }
                    CHECKS.due("10: fired of " + steps + " with " + power + " for " + load, guild.fired(0), due);
                    CHECKS.due("11: got of " + steps + " with " + power, guild.got(1), Math.min(load, steps * power));
                }
            }
        }
    }

    /** "In the order of rising cost": one cheaper, as dear, and one dearer than the first. */
    private static void orderOfTwoCosts() {
        int[] costs = {1, 49, 50, 51, 100};
        boolean[] firstComesFirst = {false, false, true, true, true};
        for (int i = 0; i < costs.length; i++) {
            HeatGuild guild = houseAlone(15);
            guild.addBoiler(1, 10, 50);
            guild.addBoiler(1, 12, costs[i]);
            guild.hour(8);
            int due = firstComesFirst[i] ? 10 * 50 + 5 * costs[i] : 12 * costs[i] + 3 * 50;
            CHECKS.due("16: cost with a second of cost " + costs[i], guild.cost(), due);
            guild.setArea(1, 10);
            guild.hour(8);
            CHECKS.due("10: first with a second of " + costs[i], guild.fired(0), firstComesFirst[i] ? 1 : 0);
            CHECKS.due("10: second with a cost of " + costs[i], guild.fired(1), firstComesFirst[i] ? 0 : 1);
        }
    }

    /** "Of the same cost by rising numbers": two, three and four boilers, beside dearer and cheaper ones. */
    private static void orderOfTheSameCost() {
        int[][] costs = {{5, 5}, {5, 5, 5}, {5, 5, 5, 5}, {6, 5, 5}, {5, 6, 5}, {5, 5, 4}, {6, 5, 4, 5}, {5, 4, 5, 4}};
        int[][] orders = {{0, 1}, {0, 1, 2}, {0, 1, 2, 3}, {1, 2, 0}, {0, 2, 1}, {2, 0, 1}, {2, 1, 3, 0}, {1, 3, 0, 2}};
        for (int run = 0; run < costs.length; run++) {
            for (int enough = 1; enough <= costs[run].length; enough++) {
                HeatGuild guild = houseAlone(10 * enough);
                for (int cost : costs[run]) {
                    guild.addBoiler(2, 5, cost);
                }
                guild.hour(8);
                for (int place = 0; place < orders[run].length; place++) {
                    int boiler = orders[run][place];
                    CHECKS.due("10: fired at place " + place, guild.fired(boiler), place < enough ? 2 : 0);
                }
            }
        }
    }

    /** "0 .. if no hour has passed, or it was added since". */
    private static void boilerThatIsAddedSince() {
        HeatGuild guild = houseAlone(25);
        CHECKS.due("4: number", guild.addBoiler(2, 10, 50), 0);
        CHECKS.due("10: no hour has passed", guild.fired(0), 0);
        for (int added = 1; added <= 3; added++) {
            guild.hour(8);
            CHECKS.due("4: number", guild.addBoiler(1, 10, 50 - added), added);
            CHECKS.due("10: added since", guild.fired(added), 0);
            CHECKS.due("10: of the last hour, the dearest", guild.fired(0), added < 3 ? 2 : 1);
            for (int before = 1; before < added; before++) {
                CHECKS.due("10: of the last hour", guild.fired(before), 1);
            }
        }
        guild.hour(8);
        CHECKS.due("10: the one that was added last is first", guild.fired(3), 1);
        CHECKS.due("10: nothing is left for the dearest", guild.fired(0), 0);
    }

    /** "As few steps as are enough": none if nothing is left, in an hour after one in which all were fired. */
    private static void nothingIsFiredWithoutALoad() {
        HeatGuild guild = houseAlone(50);
        guild.addBoiler(1, 1, 3);
        guild.addBoiler(5, 20, 7);
        guild.hour(-20);
        CHECKS.due("10: all of the first", guild.fired(0), 1);
        CHECKS.due("10: all of the second", guild.fired(1), 5);
        int cost = guild.cost();
        for (int temperature : new int[] {18, 30}) {
            guild.hour(temperature);
            CHECKS.due("10: none of the first at " + temperature, guild.fired(0), 0);
            CHECKS.due("10: none of the second at " + temperature, guild.fired(1), 0);
            CHECKS.due("16: no cost at " + temperature, guild.cost(), cost);
        }
        guild.setArea(1, 1);
        guild.hour(17);
        CHECKS.due("10: a load of 1 needs the first", guild.fired(0), 1);
        CHECKS.due("10: and not the second", guild.fired(1), 0);
    }

    /** "What its steps give more than is left is not used". */
    private static void whatIsNotUsedCostsNothing() {
        for (int load : new int[] {1, 9, 10, 11, 19, 20}) {
            HeatGuild guild = houseAlone(load);
            guild.addBoiler(2, 10, 100);
            guild.hour(8);
            CHECKS.due("16: only the load of " + load + " costs", guild.cost(), 100 * load);
            CHECKS.due("11: only the load of " + load + " comes", guild.got(1), load);
            CHECKS.due("12: only the load of " + load + " is told", guild.meter(1), load);
        }
    }

    /** "If all boilers together give less than the load": one less, as much, and one more. */
    private static void allGiveLessThanTheLoad() {
        int[] powers = {77, 78, 79};
        int[] last = {29, 30, 30};
        for (int i = 0; i < powers.length; i++) {
            HeatGuild guild = threeHouses();
            guild.addBoiler(5, 10, 4);
            guild.addBoiler(2, 9, 3);
            guild.addBoiler(1, powers[i] - 68, 2);
            CHECKS.due("7: the load with a power of " + powers[i], guild.hour(8), 78);
            CHECKS.due("11: the first of " + powers[i], guild.got(2), 10);
            CHECKS.due("11: the second of " + powers[i], guild.got(5), 20);
            CHECKS.due("11: the last of " + powers[i], guild.got(9), last[i]);
            CHECKS.due("10: all steps of the dearest of " + powers[i], guild.fired(0), 5);
            CHECKS.due("12: the last meter of " + powers[i], guild.meter(9), last[i]);
        }
    }

    /** "By rising numbers of their junctions .. each with its whole demand or as much as is left". */
    private static void servedByRisingNumbers() {
        // losses of 18, then 10, 20 and 30 for the houses
        int[] powers = {19, 27, 28, 29, 30, 47, 48, 49, 50, 77, 78};
        int[] first = {1, 9, 10, 10, 10, 10, 10, 10, 10, 10, 10};
        int[] second = {0, 0, 0, 1, 2, 19, 20, 20, 20, 20, 20};
        int[] third = {0, 0, 0, 0, 0, 0, 0, 1, 2, 29, 30};
        for (int i = 0; i < powers.length; i++) {
            HeatGuild guild = threeHouses();
            guild.addBoiler(1, powers[i], 1);
            guild.hour(8);
            CHECKS.due("11: the first of " + powers[i], guild.got(2), first[i]);
            CHECKS.due("11: the second of " + powers[i], guild.got(5), second[i]);
            CHECKS.due("11: the third of " + powers[i], guild.got(9), third[i]);
            CHECKS.due("11: no house of " + powers[i], guild.got(1), 0);
        }
        HeatGuild guild = threeHouses();
        guild.addBoiler(1, 40, 1);
        guild.repair(2, 1);
        guild.hour(8);
        CHECKS.due("11: the first has no heat", guild.got(2), 0);
        CHECKS.due("11: the second takes its place, behind the losses of 14", guild.got(5), 20);
        CHECKS.due("11: the third", guild.got(9), 6);
    }

    /** "With nothing if the losses are as much or more". */
    private static void nothingIfTheLossesAreAsMuchOrMore() {
        int[] powers = {1, 16, 17, 18, 19, 20};
        int[] first = {0, 0, 0, 0, 1, 2};
        for (int i = 0; i < powers.length; i++) {
            HeatGuild guild = threeHouses();
            guild.addBoiler(1, powers[i], 3);
            CHECKS.due("7: the load with a power of " + powers[i], guild.hour(8), 78);
            CHECKS.due("11: the first of " + powers[i], guild.got(2), first[i]);
            CHECKS.due("11: the second of " + powers[i], guild.got(5), 0);
            CHECKS.due("11: the third of " + powers[i], guild.got(9), 0);
            CHECKS.due("10: fired of " + powers[i], guild.fired(0), 1);
            CHECKS.due("16: all is used of " + powers[i], guild.cost(), 3 * powers[i]);
            CHECKS.due("15: the first pays the peak price with " + powers[i], guild.bill(2), 3 * first[i]);
            CHECKS.due("15: the last is not paid with " + powers[i], guild.bill(9), 0);
        }
    }

    /** "Losses and meters tell the whole losses even then". */
    private static void wholeLossesEvenThen() {
        int[] powers = {1, 17, 18, 19, 48, 49, 77, 78, 79};
        int[] second = {8, 8, 8, 8, 28, 29, 57, 58, 58};
        int[] third = {0, 0, 0, 0, 0, 1, 29, 30, 30};
        for (int i = 0; i < powers.length; i++) {
            HeatGuild guild = threeHouses();
            guild.addBoiler(1, powers[i], 1);
            guild.hour(8);
            CHECKS.due("14: losses of " + powers[i], guild.losses(), 18);
            CHECKS.due("12: meter 5 with the loss of 9, of " + powers[i], guild.meter(5), second[i]);
            CHECKS.due("12: meter 9 of " + powers[i], guild.meter(9), third[i]);
            CHECKS.due("13: it adds up with " + powers[i], guild.isSuspected(5), false);
        }
    }

    /** "A net without boilers": the load is told, nobody gets anything, and nothing costs. */
    private static void noBoilers() {
        HeatGuild guild = threeHouses();
        guild.setError(9, -3);
        CHECKS.due("7: the load", guild.hour(8), 78);
        CHECKS.due("14: the losses", guild.losses(), 18);
        CHECKS.due("16: the cost", guild.cost(), 0);
        for (int house : new int[] {2, 5, 9}) {
            CHECKS.due("11: got " + house, guild.got(house), 0);
            CHECKS.due("15: bill " + house, guild.bill(house), 0);
        }
        CHECKS.due("12: the loss of pipe 9", guild.meter(5), 8);
        CHECKS.due("12: the error of meter 9, whose pipe carries heat", guild.meter(9), -3);
        CHECKS.due("13: it does not add up", guild.isSuspected(9), true);
        CHECKS.due("13: nor does 5", guild.isSuspected(5), true);
        CHECKS.due("13: 2 does", guild.isSuspected(2), false);
        guild.addBoiler(1, 100, 1);
        CHECKS.due("11: still the last hour's", guild.got(2), 0);
        guild.hour(8);
        CHECKS.due("11: with a boiler", guild.got(9), 30);
    }

    /** "0 if no hour has passed", "false if no hour has passed", with all that an hour would show. */
    private static void lastHourOfANewObject() {
        HeatGuild guild = threeHouses();
        guild.addBoiler(5, 100, 1);
        guild.setError(2, 5);
        guild.repair(9, 1);
        guild.load(-20);
        CHECKS.dueIllegalArgument("7: hour -21", () -> guild.hour(-21));
        CHECKS.due("14: losses", guild.losses(), 0);
        CHECKS.due("16: cost", guild.cost(), 0);
        CHECKS.due("10: fired", guild.fired(0), 0);
        for (int junction = 1; junction <= 11; junction++) {
            CHECKS.due("11: got " + junction, guild.got(junction), 0);
            CHECKS.due("12: meter " + junction, guild.meter(junction), 0);
            CHECKS.due("13: isSuspected " + junction, guild.isSuspected(junction), false);
            CHECKS.due("15: bill " + junction, guild.bill(junction), 0);
        }
        guild.hour(-20);
        CHECKS.due("14: losses of the first hour", guild.losses(), 10);
        CHECKS.due("16: cost of the first hour", guild.cost(), 38 + 76 + 10);
        CHECKS.due("10: fired in the first hour", guild.fired(0), 2);
        CHECKS.due("11: got in the first hour", guild.got(2), 38);
        CHECKS.due("12: meter of the first hour", guild.meter(2), 43);
        CHECKS.due("13: isSuspected in the first hour", guild.isSuspected(2), true);
        CHECKS.due("15: bill of the first hour", guild.bill(9), -3);
    }
}
