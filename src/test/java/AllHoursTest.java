/** Promises 15 to 17: bill, cost, isOpen. */
public final class AllHoursTest {
    private static final Checks CHECKS = new Checks();

    public static void main(String[] args) {
        promise15Bill();
        promise15BillAtThePeak();
        promise15BillInNeed();
        promise15BillWithoutHeat();
        promise15BillWrong();
        promise16Cost();
        promise16CostOfAllHours();
        promise17IsOpen();
        promise17IsOpenWrong();
        CHECKS.finish("AllHoursTest");
    }

    private static HeatGuild twoHouses() {
        HeatGuild guild = new HeatGuild();
        guild.feed(2, 1, 3);
        guild.setArea(1, 10);
        guild.setArea(2, 20);
        return guild;
    }

    private static void promise15Bill() {
        HeatGuild guild = twoHouses();
        guild.addBoiler(5, 100, 1);
        guild.hour(8);
        CHECKS.due("15: 2 a unit", guild.bill(1), 20);
        CHECKS.due("15: 2 a unit", guild.bill(2), 40);
        CHECKS.due("15: no house", guild.bill(3), 0);
        guild.hour(-2);
        CHECKS.due("15: bills add up", guild.bill(1), 60);
        guild.hour(18);
        CHECKS.due("15: a warm hour", guild.bill(1), 60);
        guild.setArea(1, 0);
        guild.setError(2, 20);
        guild.hour(8);
        CHECKS.due("15: no area any more", guild.bill(1), 60);
        CHECKS.due("15: no error in the bill", guild.bill(2), 160);
    }

    private static void promise15BillAtThePeak() {
        // the load is 34: losses of 4 and demands of 10 and 20
        int[] powers = {67, 68, 69, 34, 35, 100};
        int[] prices = {3, 2, 2, 3, 3, 2};
        for (int i = 0; i < powers.length; i++) {
            HeatGuild guild = twoHouses();
            guild.addBoiler(1, powers[i], 50);
            guild.hour(8);
            CHECKS.due("15: bill with a power of " + powers[i], guild.bill(2), 20 * prices[i]);
        }
        HeatGuild guild = twoHouses();
        guild.addBoiler(3, 11, 50);
        guild.addBoiler(1, 34, 1);
        guild.hour(8);
        CHECKS.due("15: half of 67, all steps of all boilers", guild.bill(1), 30);
        guild.addBoiler(1, 1, 1);
        guild.hour(8);
        CHECKS.due("15: half of 68", guild.bill(1), 50);
    }

    private static void promise15BillInNeed() {
        HeatGuild guild = twoHouses();
        guild.addBoiler(1, 19, 1);
        guild.hour(8);
        CHECKS.due("15: the whole demand at the peak", guild.bill(1), 30);
        CHECKS.due("15: for what it got", guild.bill(2), 15);
        HeatGuild without = twoHouses();
        without.hour(8);
        CHECKS.due("15: nothing for want of boilers, and nothing paid", without.bill(1), 0);
    }

    private static void promise15BillWithoutHeat() {
        HeatGuild guild = twoHouses();
        guild.addBoiler(5, 100, 1);
        guild.repair(1, 2);
        guild.hour(17);
        CHECKS.due("15: paid at its own shut valve", guild.bill(1), -3);
        CHECKS.due("15: paid behind a shut valve", guild.bill(2), -3);
        CHECKS.due("15: no house, not paid", guild.bill(3), 0);
        guild.hour(18);
        CHECKS.due("15: no demand otherwise, not paid", guild.bill(2), -3);
        guild.repair(2, 1);
        guild.setArea(2, 0);
        guild.hour(-20);
        CHECKS.due("15: no area, not paid", guild.bill(2), -3);
        CHECKS.due("15: pays again", guild.bill(1), 73);
        guild.setArea(2, 50);
        guild.hour(18);
        guild.repair(2, 20);
        for (int hour = 0; hour < 20; hour++) {
            guild.hour(-20);
        }
        CHECKS.due("15: paid for each hour", guild.bill(2), -63);
    }

    private static void promise15BillWrong() {
        CHECKS.dueIllegalJunctions("15: bill", junction -> () -> new HeatGuild().bill(junction));
        CHECKS.due("15: bill 11", new HeatGuild().bill(11), 0);
    }

    private static void promise16Cost() {
        HeatGuild guild = twoHouses();
        guild.addBoiler(2, 10, 7);
        CHECKS.due("16: no hour", guild.cost(), 0);
        guild.addBoiler(5, 10, 3);
        guild.load(-20);
        CHECKS.due("16: load costs nothing", guild.cost(), 0);
        guild.hour(8);
        CHECKS.due("16: what is used of the cheaper, with the losses", guild.cost(), 34 * 3);
        guild.hour(-2);
        CHECKS.due("16: 50 of the cheaper, 14 of the dearer", guild.cost(), 34 * 3 + 50 * 3 + 14 * 7);
        guild.hour(18);
        CHECKS.due("16: a warm hour", guild.cost(), 34 * 3 + 50 * 3 + 14 * 7);
        guild.hour(-20);
        CHECKS.due("16: at most all", guild.cost(), 34 * 3 + 50 * 3 + 14 * 7 + 50 * 3 + 20 * 7);
        guild.setArea(1, 0);
        guild.setArea(2, 0);
        guild.hour(-20);
        CHECKS.due("16: no load", guild.cost(), 34 * 3 + 50 * 3 + 14 * 7 + 50 * 3 + 20 * 7);
    }

    private static void promise16CostOfAllHours() {
        HeatGuild guild = new HeatGuild();
        for (int junction = 1; junction <= 11; junction++) {
            guild.setArea(junction, 50);
        }
        for (int boiler = 0; boiler < 4; boiler++) {
            guild.addBoiler(5, 100, 100);
        }
        for (int hour = 1; hour <= 400; hour++) {
            guild.hour(-20);
        }
        CHECKS.due("16: 400 hours at the most", guild.cost(), 400 * 2000 * 100);
        CHECKS.due("15: 400 hours at the most", guild.bill(1), 400 * 190 * 3);
    }

    private static void promise17IsOpen() {
        HeatGuild guild = new HeatGuild();
        guild.feed(2, 1, 1);
        guild.repair(1, 1);
        CHECKS.due("17: shut", guild.isOpen(1), false);
        CHECKS.due("17: behind a shut one", guild.isOpen(2), true);
        guild.repair(2, 3);
        guild.load(0);
        CHECKS.due("17: load is no hour", guild.isOpen(1), false);
        guild.hour(0);
        CHECKS.due("17: open after one hour", guild.isOpen(1), true);
        CHECKS.due("17: shut after one of three", guild.isOpen(2), false);
        guild.hour(0);
        CHECKS.due("17: shut after two of three", guild.isOpen(2), false);
        guild.hour(0);
        CHECKS.due("17: open after three of three", guild.isOpen(2), true);
        guild.hour(0);
        CHECKS.due("17: stays open", guild.isOpen(2), true);
    }

    private static void promise17IsOpenWrong() {
        CHECKS.dueIllegalJunctions("17: isOpen", junction -> () -> new HeatGuild().isOpen(junction) ? 1 : 0);
        CHECKS.due("17: isOpen 11", new HeatGuild().isOpen(11), true);
    }
}
