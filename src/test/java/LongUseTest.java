/**
 * "An object is used for at most 512 calls after it has been made": the last of them, and the most that they can
 * add up to.
 */
public final class LongUseTest {
    private static final int MOST_CALLS = 512;
    private static final Checks CHECKS = new Checks();

    public static void main(String[] args) {
        lastOfAllCalls();
        mostHours();
        highestCostAndBills();
        lowestBill();
        refusedCallsOnly();
        CHECKS.finish("LongUseTest");
    }

    /** A guild of which, after some houses were built, only loads were asked. */
    private static HeatGuild withOneCallLeft(int houses) {
        HeatGuild guild = new HeatGuild();
        for (int house = 1; house <= houses; house++) {
            guild.setArea(house, 50);
        }
        for (int call = houses + 1; call < MOST_CALLS; call++) {
            guild.load(call % 51 - 20);
        }
        return guild;
    }

    /** "At most 512 calls": the last of them can be any. */
    private static void lastOfAllCalls() {
        CHECKS.due("2: feed", withOneCallLeft(0).feed(11, 10, 20), 0);
        CHECKS.due("3: setArea", withOneCallLeft(0).setArea(11, 50), 0);
        CHECKS.due("4: addBoiler", withOneCallLeft(0).addBoiler(5, 100, 100), 0);
        CHECKS.due("5: setError", withOneCallLeft(0).setError(11, -20), 0);
        CHECKS.due("6: repair", withOneCallLeft(0).repair(11, 20), 0);
        CHECKS.due("7: hour", withOneCallLeft(1).hour(17), 6);
        CHECKS.due("8: hours", withOneCallLeft(1).hours(), 0);
        CHECKS.due("9: load", withOneCallLeft(1).load(-20), 191);
        CHECKS.dueThrow("10: fired", IndexOutOfBoundsException.class, () -> withOneCallLeft(0).fired(0));
        CHECKS.due("11: got", withOneCallLeft(1).got(1), 0);
        CHECKS.due("12: meter", withOneCallLeft(1).meter(1), 0);
        CHECKS.due("13: isSuspected", withOneCallLeft(1).isSuspected(1), false);
        CHECKS.due("14: losses", withOneCallLeft(1).losses(), 0);
        CHECKS.due("15: bill", withOneCallLeft(1).bill(1), 0);
        CHECKS.due("16: cost", withOneCallLeft(1).cost(), 0);
        CHECKS.due("17: isOpen", withOneCallLeft(0).isOpen(11), true);
    }

    private static void mostHours() {
        HeatGuild guild = new HeatGuild();
        for (int call = 1; call < MOST_CALLS; call++) {
            guild.hour(call % 51 - 20);
        }
        CHECKS.due("8: hours of as many calls as there are", guild.hours(), MOST_CALLS - 1);
    }

    private static void highestCostAndBills() {
        for (String question : new String[] {"cost", "bill of the first", "bill of the last"}) {
            HeatGuild guild = new HeatGuild();
            for (int junction = 1; junction <= 11; junction++) {
                guild.setArea(junction, 50);
            }
            for (int boiler = 0; boiler < 4; boiler++) {
                guild.addBoiler(5, 100, 100);
            }
            int hours = MOST_CALLS - 16;
            for (int hour = 1; hour <= hours; hour++) {
                guild.hour(-20);
            }
            switch (question) {
                case "cost" -> CHECKS.due("16: the highest " + question, guild.cost(), hours * 2000 * 100);
                case "bill of the first" -> CHECKS.due("15: the highest " + question, guild.bill(1), hours * 190 * 3);
                default -> CHECKS.due("15: the highest " + question, guild.bill(11), hours * (1989 - 1900) * 3);
            }
        }
    }

    private static void lowestBill() {
        HeatGuild guild = new HeatGuild();
        guild.setArea(11, 1);
        // a repair and its hours are 21 calls
        int repairs = (MOST_CALLS - 2) / 21;
        for (int repair = 1; repair <= repairs; repair++) {
            CHECKS.due("6: repair again once it is over", guild.repair(11, 20), 1);
            for (int hour = 1; hour <= 20; hour++) {
                guild.hour(10);
            }
        }
        CHECKS.due("15: the lowest bill", guild.bill(11), -3 * 20 * repairs);
    }

    /** "A method that throws an exception changes nothing", in all calls before the last. */
    private static void refusedCallsOnly() {
        HeatGuild guild = new HeatGuild();
        for (int call = 1; call < MOST_CALLS; call++) {
            switch (call % 4) {
                case 0 -> CHECKS.dueIllegalArgument("7: hour", () -> guild.hour(31));
                case 1 -> CHECKS.dueIllegalArgument("4: addBoiler", () -> guild.addBoiler(6, 1, 1));
                case 2 -> CHECKS.dueIllegalArgument("2: feed", () -> guild.feed(11, 11, 1));
                default -> CHECKS.dueIllegalArgument("6: repair", () -> guild.repair(11, 0));
            }
        }
        CHECKS.due("17: isOpen after refused calls only", guild.isOpen(11), true);
    }
}
