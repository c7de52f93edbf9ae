/** The edges in "Terms" that have to do with bills. */
public final class BillEdgesTest {
    private static final Checks CHECKS = new Checks();

    public static void main(String[] args) {
        moreThanHalfOfThePower();
        moreThanHalfWithAnOddPower();
        halfOfAllBoilersInTheHour();
        peakInNeed();
        paidOnlyIfItWouldHaveADemand();
        paidOnlyForWantOfOpenValves();
        billBelowZero();
        firstAndLastHourOfARepair();
        CHECKS.finish("BillEdgesTest");
    }

    /** Pipes 0-1, 1-2, 2-4 and 1-3 with losses 0, 3, 5 and 7; areas 10, 20, 30 and 40; the load at 8 is 115. */
    private static HeatGuild fork() {
        HeatGuild guild = new HeatGuild();
        guild.feed(1, 0, 0);
        guild.feed(2, 1, 3);
        guild.feed(4, 2, 5);
        guild.feed(3, 1, 7);
        guild.setArea(1, 10);
        guild.setArea(2, 20);
        guild.setArea(4, 30);
        guild.setArea(3, 40);
        return guild;
    }

    private static HeatGuild forkWithHeat() {
        HeatGuild guild = fork();
        guild.addBoiler(5, 100, 1);
        return guild;
    }

    /** "The load was more than half of the power of all boilers". */
    private static void moreThanHalfOfThePower() {
        int[] areas = {24, 25, 26, 49, 50};
        int[] prices = {2, 2, 3, 3, 3};
        for (int i = 0; i < areas.length; i++) {
            HeatGuild guild = new HeatGuild();
            guild.feed(1, 0, 0);
            guild.setArea(1, areas[i]);
            guild.addBoiler(2, 10, 9);
            guild.addBoiler(3, 10, 1);
            guild.hour(8);
            CHECKS.due("15: a load of " + areas[i] + " of 50", guild.bill(1), prices[i] * areas[i]);
        }
        for (int loss = 0; loss <= 2; loss++) {
            HeatGuild guild = new HeatGuild();
            guild.feed(1, 0, loss);
            guild.setArea(1, 24);
            guild.addBoiler(5, 10, 9);
            guild.hour(8);
            CHECKS.due("15: a load of 24 and " + loss + " of 50", guild.bill(1), loss < 2 ? 48 : 72);
        }
    }

    /** The same where the half is no whole number. */
    private static void moreThanHalfWithAnOddPower() {
        for (int power = 1; power <= 99; power += 2) {
            HeatGuild guild = new HeatGuild();
            guild.feed(1, 0, 0);
            guild.addBoiler(1, power, 1);
            int below = power / 2;
            guild.setArea(1, below);
            guild.hour(8);
            CHECKS.due("15: a load of " + below + " of " + power, guild.bill(1), 2 * below);
            guild.setArea(1, below + 1);
            guild.hour(8);
            CHECKS.due("15: one more of " + power, guild.bill(1), 2 * below + 3 * (below + 1));
        }
    }

    /** "Of all boilers": those that were not fired too, and not those that were added since. */
    private static void halfOfAllBoilersInTheHour() {
        HeatGuild guild = new HeatGuild();
        guild.feed(1, 0, 0);
        guild.setArea(1, 10);
        int bill = 0;
        int[] powers = {10, 19, 20, 21};
        int[] prices = {3, 3, 2, 2};
        for (int i = 0; i < powers.length; i++) {
            guild.addBoiler(1, i == 0 ? 10 : powers[i] - powers[i - 1], 50);
            CHECKS.due("15: one added since", guild.bill(1), bill);
            guild.hour(8);
            bill += 10 * prices[i];
            CHECKS.due("15: a load of 10 of " + powers[i], guild.bill(1), bill);
        }
    }

    /** The load, not what is got, is laid beside the power. */
    private static void peakInNeed() {
        int[] powers = {15, 16, 114, 115, 116, 229, 230, 231};
        int[] first = {0, 1, 10, 10, 10, 10, 10, 10};
        int[] prices = {3, 3, 3, 3, 3, 3, 2, 2};
        for (int i = 0; i < powers.length; i++) {
            HeatGuild guild = fork();
            guild.addBoiler(1, powers[i] / 3, 1);
            guild.addBoiler(1, powers[i] / 3, 1);
            guild.addBoiler(1, powers[i] - 2 * (powers[i] / 3), 1);
            guild.hour(8);
            CHECKS.due("15: bill with a power of " + powers[i], guild.bill(1), first[i] * prices[i]);
        }
    }

    /** "And would have a demand otherwise": the area and the temperature beside the edge. */
    private static void paidOnlyIfItWouldHaveADemand() {
        int[] temperatures = {-20, 16, 17, 18, 19, 30};
        for (int temperature : temperatures) {
            for (int area = 0; area <= 2; area++) {
                HeatGuild guild = forkWithHeat();
                guild.setArea(2, area);
                guild.setArea(4, area);
                guild.repair(2, 2);
                int due = temperature < 18 && area > 0 ? -3 : 0;
                for (int hour = 1; hour <= 2; hour++) {
                    guild.hour(temperature);
                    String told = " at " + temperature + " with an area of " + area;
                    CHECKS.due("15: its own valve is shut" + told, guild.bill(2), hour * due);
                    CHECKS.due("15: the valve before is shut" + told, guild.bill(4), hour * due);
                }
            }
        }
    }

    /** "A house that has no heat for want of open valves": not for want of power. */
    private static void paidOnlyForWantOfOpenValves() {
        for (int power : new int[] {1, 14, 15, 16}) {
            HeatGuild guild = fork();
            guild.addBoiler(1, power, 1);
            guild.hour(8);
            CHECKS.due("15: the first of " + power, guild.bill(1), power > 15 ? 3 : 0);
            CHECKS.due("15: the last of " + power, guild.bill(4), 0);
        }
        HeatGuild without = fork();
        without.hour(-20);
        CHECKS.due("15: no boilers", without.bill(4), 0);
        without.hour(10);
        without.repair(4, 1);
        without.hour(-20);
        CHECKS.due("15: no boilers, and a shut valve", without.bill(4), -3);
        CHECKS.due("15: no boilers, and no shut valve before it", without.bill(2), 0);
    }

    /** "Its bill, which may be below 0": from above to 0, below, and up again. */
    private static void billBelowZero() {
        HeatGuild guild = new HeatGuild();
        guild.addBoiler(5, 100, 1);
        guild.setArea(1, 3);
        guild.hour(8);
        CHECKS.due("15: 3 units", guild.bill(1), 6);
        guild.hour(10);
        CHECKS.due("15: 3 units more", guild.bill(1), 12);
        guild.repair(1, 6);
        for (int due : new int[] {9, 6, 3, 0, -3, -6}) {
            guild.hour(8);
            CHECKS.due("15: 3 less", guild.bill(1), due);
        }
        for (int due : new int[] {0, 6}) {
            guild.hour(8);
            CHECKS.due("15: 6 more", guild.bill(1), due);
        }
    }

    /** "For some hours": the first and the last hour are paid, the one before and the one after are not. */
    private static void firstAndLastHourOfARepair() {
        for (int hours = 1; hours <= 20; hours++) {
            HeatGuild guild = forkWithHeat();
            guild.hour(10);
            int bill = guild.bill(4);
            guild.repair(4, hours);
            CHECKS.due("15: nothing before an hour has passed", guild.bill(4), bill);
            for (int hour = 1; hour <= hours; hour++) {
                guild.hour(8);
                CHECKS.due("15: hour " + hour + " of " + hours, guild.bill(4), bill - 3 * hour);
            }
            guild.hour(8);
            CHECKS.due("15: the hour after " + hours, guild.bill(4), bill - 3 * hours + 60);
        }
    }
}
