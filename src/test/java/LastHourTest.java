/** Promises 10 to 14: fired, got, meter, isSuspected, losses. */
public final class LastHourTest {
    private static final Checks CHECKS = new Checks();

    public static void main(String[] args) {
        promise10Fired();
        promise10FiredInTheOrderOfCost();
        promise10FiredWrong();
        promise11Got();
        promise11GotInNeed();
        promise11GotWrong();
        promise12Meter();
        promise12MeterInNeed();
        promise12MeterWithError();
        promise12MeterWrong();
        promise13IsSuspected();
        promise13IsSuspectedWithoutHeat();
        promise13IsSuspectedWrong();
        promise14Losses();
        CHECKS.finish("LastHourTest");
    }

    /** Pipes 0-1, 1-2, 2-3 and 1-4 with losses 2, 3, 4 and 5; areas 10, 0, 20 and 30. */
    private static HeatGuild fork() {
        HeatGuild guild = new HeatGuild();
        guild.feed(1, 0, 2);
        guild.feed(2, 1, 3);
        guild.feed(3, 2, 4);
        guild.feed(4, 1, 5);
        guild.setArea(1, 10);
        guild.setArea(3, 20);
        guild.setArea(4, 30);
        return guild;
    }

    /** A net whose load at 8 degrees is the area of house 1. */
    private static HeatGuild houseAlone(int area) {
        HeatGuild guild = new HeatGuild();
        guild.feed(1, 0, 0);
        guild.setArea(1, area);
        return guild;
    }

    private static void promise10Fired() {
        int[] areas = {0, 1, 9, 10, 11, 20, 21, 29, 30, 31, 50};
        int[] steps = {0, 1, 1, 1, 2, 2, 3, 3, 3, 3, 3};
        HeatGuild guild = houseAlone(0);
        guild.addBoiler(3, 10, 5);
        CHECKS.due("10: no hour has passed", guild.fired(0), 0);
        for (int i = 0; i < areas.length; i++) {
            guild.setArea(1, areas[i]);
            guild.hour(8);
            CHECKS.due("10: fired for a load of " + areas[i], guild.fired(0), steps[i]);
        }
        CHECKS.due("10: one added since", guild.addBoiler(5, 100, 1), 1);
        CHECKS.due("10: fired of it", guild.fired(1), 0);
        CHECKS.due("10: fired of the other", guild.fired(0), 3);
        guild.hour(8);
        CHECKS.due("10: fired of the cheaper one", guild.fired(1), 1);
        CHECKS.due("10: nothing is left for the dearer one", guild.fired(0), 0);
    }

    private static void promise10FiredInTheOrderOfCost() {
        int[][] prices = {{1, 2, 3, 4}, {4, 3, 2, 1}, {2, 1, 2, 1}, {7, 7, 7, 7}, {3, 1, 4, 2}, {2, 3, 1, 2}};
        int[][] orders = {{0, 1, 2, 3}, {3, 2, 1, 0}, {1, 3, 0, 2}, {0, 1, 2, 3}, {1, 3, 0, 2}, {2, 0, 3, 1}};
        for (int run = 0; run < prices.length; run++) {
            HeatGuild guild = houseAlone(0);
            for (int price : prices[run]) {
                guild.addBoiler(2, 5, price);
            }
            int spent = 0;
            for (int load = 0; load <= 45; load++) {
                guild.setArea(1, load);
                guild.hour(8);
                for (int place = 0; place < 4; place++) {
                    int boiler = orders[run][place];
                    int used = Math.min(10, Math.max(0, load - 10 * place));
                    spent += used * prices[run][boiler];
                    CHECKS.due("10: fired of " + boiler + " for " + load, guild.fired(boiler), (used + 4) / 5);
                }
                CHECKS.due("16: cost of what is used", guild.cost(), spent);
            }
        }
    }

    private static void promise10FiredWrong() {
        HeatGuild guild = new HeatGuild();
        for (int count = 0; count <= 4; count++) {
            for (int boiler : new int[] {-1, count, count + 1, Integer.MIN_VALUE, Integer.MAX_VALUE}) {
                CHECKS.dueThrow("10: fired of " + boiler, IndexOutOfBoundsException.class, () -> guild.fired(boiler));
            }
            for (int boiler = 0; boiler < count; boiler++) {
                CHECKS.due("10: fired of one that is there", guild.fired(boiler), 0);
            }
            if (count < 4) {
                guild.addBoiler(1, 1, 50 - count);
            }
        }
    }

    private static void promise11Got() {
        HeatGuild guild = fork();
        guild.addBoiler(5, 100, 1);
        guild.hour(8);
        int[] due = {0, 10, 0, 20, 30, 0};
        for (int junction = 1; junction <= 5; junction++) {
            CHECKS.due("11: got " + junction, guild.got(junction), due[junction]);
        }
        guild.setArea(3, 50);
        guild.load(-20);
        CHECKS.due("11: still the last hour's", guild.got(3), 20);
        guild.hour(18);
        CHECKS.due("11: nothing in a warm hour", guild.got(3), 0);
        guild.repair(2, 1);
        guild.hour(8);
        CHECKS.due("11: nothing behind a shut valve", guild.got(3), 0);
        CHECKS.due("11: beside the shut valve", guild.got(4), 30);
    }

    private static void promise11GotInNeed() {
        // the load is 74: losses of 14 and demands of 10, 20 and 30
        int[] powers = {73, 44, 43, 25, 24, 23, 15, 14, 13, 1};
        int[] first = {10, 10, 10, 10, 10, 9, 1, 0, 0, 0};
        int[] third = {20, 20, 19, 1, 0, 0, 0, 0, 0, 0};
        int[] fourth = {29, 0, 0, 0, 0, 0, 0, 0, 0, 0};
        for (int i = 0; i < powers.length; i++) {
            HeatGuild guild = fork();
            guild.addBoiler(1, powers[i], 3);
            CHECKS.due("7: the whole load", guild.hour(8), 74);
            CHECKS.due("11: got 1 of " + powers[i], guild.got(1), first[i]);
            CHECKS.due("11: got 3 of " + powers[i], guild.got(3), third[i]);
            CHECKS.due("11: got 4 of " + powers[i], guild.got(4), fourth[i]);
            CHECKS.due("14: the whole losses of " + powers[i], guild.losses(), 14);
            CHECKS.due("16: all is used of " + powers[i], guild.cost(), 3 * powers[i]);
        }
        HeatGuild without = fork();
        without.hour(8);
        CHECKS.due("11: got without boilers", without.got(1), 0);
        CHECKS.due("14: losses without boilers", without.losses(), 14);
        HeatGuild enough = fork();
        enough.addBoiler(1, 74, 3);
        enough.hour(8);
        CHECKS.due("11: power that is just enough", enough.got(4), 30);
    }

    private static void promise11GotWrong() {
        CHECKS.dueIllegalJunctions("11: got", junction -> () -> new HeatGuild().got(junction));
        CHECKS.due("11: got 11", new HeatGuild().got(11), 0);
    }

    private static void promise12Meter() {
        HeatGuild guild = fork();
        guild.addBoiler(5, 100, 1);
        guild.hour(8);
        CHECKS.due("12: all houses, without its own loss", guild.meter(1), 72);
        CHECKS.due("12: the house behind and its loss", guild.meter(2), 24);
        CHECKS.due("12: its house alone", guild.meter(3), 20);
        CHECKS.due("12: its house alone", guild.meter(4), 30);
        CHECKS.due("12: carries nothing", guild.meter(5), 0);
        guild.setArea(3, 0);
        guild.hour(8);
        CHECKS.due("12: without the losses of 2 and 3", guild.meter(1), 45);
        CHECKS.due("12: 2 carries nothing", guild.meter(2), 0);
        guild.hour(18);
        CHECKS.due("12: a warm hour", guild.meter(1), 0);
        guild.repair(4, 1);
        guild.hour(8);
        CHECKS.due("12: without what is behind a shut valve", guild.meter(1), 10);
        CHECKS.due("12: a shut pipe", guild.meter(4), 0);
    }

    private static void promise12MeterInNeed() {
        HeatGuild guild = fork();
        guild.addBoiler(1, 25, 1);
        guild.hour(8);
        CHECKS.due("12: houses that got, and the whole losses", guild.meter(1), 23);
        CHECKS.due("12: one unit and the loss of 3", guild.meter(2), 5);
        CHECKS.due("12: one unit", guild.meter(3), 1);
        CHECKS.due("12: no unit", guild.meter(4), 0);
        CHECKS.due("13: adds up in need", guild.isSuspected(1), false);
        guild.setError(4, 7);
        guild.hour(8);
        CHECKS.due("12: carries heat, though its house got none", guild.meter(4), 7);
        CHECKS.due("13: and is suspected", guild.isSuspected(4), true);
    }

    private static void promise12MeterWithError() {
        HeatGuild guild = fork();
        guild.addBoiler(5, 100, 1);
        guild.setError(3, -20);
        guild.setError(5, 9);
        guild.hour(17);
        CHECKS.due("12: below 0", guild.meter(3), -18);
        CHECKS.due("12: another's error does not tell here", guild.meter(2), 6);
        CHECKS.due("12: no error without heat", guild.meter(5), 0);
        guild.setError(3, 0);
        CHECKS.due("12: the last hour's error", guild.meter(3), -18);
        guild.hour(18);
        CHECKS.due("12: no error in a warm hour", guild.meter(5), 0);
        guild.setError(3, 5);
        guild.repair(2, 1);
        guild.hour(8);
        CHECKS.due("12: no error behind a shut valve", guild.meter(3), 0);
        CHECKS.due("13: no suspicion behind a shut valve", guild.isSuspected(3), false);
        CHECKS.due("12: the load did not need the shut part", guild.meter(1), 45);
    }

    private static void promise12MeterWrong() {
        CHECKS.dueIllegalJunctions("12: meter", junction -> () -> new HeatGuild().meter(junction));
        CHECKS.due("12: meter 11", new HeatGuild().meter(11), 0);
    }

    private static void dueSuspects(String call, HeatGuild guild, boolean... due) {
        for (int junction = 1; junction <= due.length; junction++) {
            CHECKS.due("13: " + call + ", meter " + junction, guild.isSuspected(junction), due[junction - 1]);
        }
    }

    private static void promise13IsSuspected() {
        HeatGuild guild = fork();
        guild.addBoiler(5, 100, 1);
        guild.setError(3, 6);
        dueSuspects("no hour", guild, false, false, false, false);
        guild.hour(8);
        dueSuspects("error at 3", guild, false, true, true, false);
        guild.setError(2, 6);
        dueSuspects("still by the last hour", guild, false, true, true, false);
        guild.hour(8);
        dueSuspects("2 adds up with 3", guild, true, false, true, false);
        guild.setError(4, -6);
        guild.hour(8);
        dueSuspects("2 and 4 are even for 1", guild, false, false, true, true);
        guild.setError(1, -1);
        guild.hour(8);
        dueSuspects("1 by its own error", guild, true, false, true, true);
        guild.hour(18);
        dueSuspects("a warm hour", guild, false, false, false, false);
    }

    private static void promise13IsSuspectedWithoutHeat() {
        HeatGuild guild = fork();
        guild.addBoiler(5, 100, 1);
        guild.setError(2, 6);
        guild.setArea(3, 0);
        guild.hour(8);
        dueSuspects("2 carries nothing", guild, false, false, false, false);
        guild.setArea(2, 1);
        guild.hour(8);
        dueSuspects("2 carries heat", guild, true, true, false, false);
        guild.hour(18);
        guild.repair(2, 1);
        guild.hour(8);
        dueSuspects("2 is shut", guild, false, false, false, false);
    }

    private static void promise13IsSuspectedWrong() {
        CHECKS.dueIllegalJunctions("13: isSuspected", junction -> () -> new HeatGuild().isSuspected(junction) ? 1 : 0);
        CHECKS.due("13: isSuspected 11", new HeatGuild().isSuspected(11), false);
    }

    private static void promise14Losses() {
        HeatGuild guild = fork();
        CHECKS.due("14: no hour", guild.losses(), 0);
        guild.load(8);
        CHECKS.due("14: load is no hour", guild.losses(), 0);
        guild.hour(8);
        CHECKS.due("14: 2 + 3 + 4 + 5", guild.losses(), 14);
        guild.setArea(4, 0);
        guild.load(-20);
        CHECKS.due("14: still the last hour's", guild.losses(), 14);
        guild.hour(8);
        CHECKS.due("14: 2 + 3 + 4", guild.losses(), 9);
        guild.hour(18);
        CHECKS.due("14: a warm hour", guild.losses(), 0);
        guild.setArea(4, 1);
        guild.repair(3, 1);
        guild.hour(8);
        CHECKS.due("14: 2 leads to nothing but a shut valve", guild.losses(), 7);
    }
}
