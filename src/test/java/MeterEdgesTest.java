/** The edges in "Terms" that have to do with meters. */
public final class MeterEdgesTest {
    private static final Checks CHECKS = new Checks();

    public static void main(String[] args) {
        ownLossIsNotCounted();
        errorOnlyIfThePipeCarriesHeat();
        meterTellsAnotherNumber();
        lossesOfPipesThatGoOn();
        onlyMetersOfPipesThatGoOn();
        suspicionIsThatOfTheLastHour();
        CHECKS.finish("MeterEdgesTest");
    }

    /** Pipes 0-1, 1-2, 2-4 and 1-3 with losses 0, 3, 5 and 7; areas 10, 20, 30 and 40; the load at 8 is 115. */
    private static HeatGuild fork() {
        HeatGuild guild = new HeatGuild();
        guild.feed(1, 0, 0);
        guild.feed(2, 1, 3);
        guild.feed(4, 2, 5);
        guild.feed(3, 1, 7);
        guild.setArea(1, 10);
        guild.setArea(2, 20);
        guild.setArea(4, 30);
        guild.setArea(3, 40);
        return guild;
    }

    private static HeatGuild forkWithHeat() {
        HeatGuild guild = fork();
        guild.addBoiler(5, 100, 1);
        return guild;
    }

    /** "The losses of the pipes behind it that carry heat, its own not counted". */
    private static void ownLossIsNotCounted() {
        for (int loss : new int[] {0, 1, 2, 19, 20}) {
            HeatGuild guild = forkWithHeat();
            guild.feed(2, 1, loss);
            guild.hour(8);
            CHECKS.due("12: meter 2 with its own loss of " + loss, guild.meter(2), 20 + 30 + 5);
            CHECKS.due("12: meter 1, before a loss of " + loss, guild.meter(1), 100 + 5 + 7 + loss);
            CHECKS.due("12: meter 4, behind a loss of " + loss, guild.meter(4), 30);
            CHECKS.due("13: 1 adds up with a loss of " + loss, guild.isSuspected(1), false);
            CHECKS.due("13: 2 adds up with its own loss of " + loss, guild.isSuspected(2), false);
        }
    }

    /** "An error, which is added to what it tells in each hour in which its pipe carries heat". */
    private static void errorOnlyIfThePipeCarriesHeat() {
        for (int error : new int[] {-20, -1, 1, 20}) {
            HeatGuild guild = forkWithHeat();
            guild.setError(4, error);
            CHECKS.due("12: no hour has passed", guild.meter(4), 0);
            int[] temperatures = {17, 18, 17, 30, 8};
            int[] due = {3 + error, 0, 3 + error, 0, 30 + error};
            for (int hour = 0; hour < due.length; hour++) {
                guild.hour(temperatures[hour]);
                CHECKS.due("12: meter at " + temperatures[hour], guild.meter(4), due[hour]);
                CHECKS.due("13: suspected at " + temperatures[hour], guild.isSuspected(4), temperatures[hour] < 18);
            }
            guild.setArea(4, 0);
            guild.hour(8);
            CHECKS.due("12: an area of 0", guild.meter(4), 0);
            guild.setArea(4, 1);
            guild.hour(17);
            CHECKS.due("12: an area of 1", guild.meter(4), 1 + error);
            guild.hour(18);
            guild.repair(2, 1);
            guild.hour(17);
            CHECKS.due("12: a shut valve before it", guild.meter(4), 0);
            CHECKS.due("13: a shut valve before it", guild.isSuspected(4), false);
            guild.hour(17);
            CHECKS.due("12: an open valve before it", guild.meter(4), 1 + error);
        }
    }

    /** "If it tells another number than": one less, the same, and one more. */
    private static void meterTellsAnotherNumber() {
        for (int own = -20; own <= 20; own++) {
            for (int next = -1; next <= 1; next++) {
                HeatGuild guild = forkWithHeat();
                guild.setError(2, own);
                guild.setError(4, next);
                guild.hour(8);
                String told = " with errors " + own + " and " + next;
                CHECKS.due("12: meter 2" + told, guild.meter(2), 55 + own);
                CHECKS.due("13: meter 2" + told, guild.isSuspected(2), own != next);
                CHECKS.due("13: meter 4" + told, guild.isSuspected(4), next != 0);
                CHECKS.due("13: meter 1" + told, guild.isSuspected(1), own != 0);
                CHECKS.due("13: meter 3" + told, guild.isSuspected(3), false);
            }
        }
    }

    /** "Plus the losses of those of these that carry heat". */
    private static void lossesOfPipesThatGoOn() {
        for (int area = 0; area <= 1; area++) {
            for (int loss : new int[] {0, 1, 20}) {
                HeatGuild guild = forkWithHeat();
                guild.feed(4, 2, loss);
                guild.setArea(4, area);
                guild.setError(4, 6);
                guild.hour(8);
                String told = " with a loss of " + loss + " and an area of " + area;
                CHECKS.due("12: meter 2" + told, guild.meter(2), 20 + (area + loss) * area);
                CHECKS.due("13: meter 2" + told, guild.isSuspected(2), area == 1);
                CHECKS.due("13: meter 1" + told, guild.isSuspected(1), false);
            }
        }
    }

    /** "The meters of all pipes that go on from there": of both, and not of those farther behind. */
    private static void onlyMetersOfPipesThatGoOn() {
        for (int second = -1; second <= 1; second++) {
            for (int third = -1; third <= 1; third++) {
                HeatGuild guild = forkWithHeat();
                guild.setError(2, second);
                guild.setError(3, third);
                guild.setError(4, 9);
                guild.hour(8);
                String told = " with errors " + second + " and " + third;
                CHECKS.due("13: meter 1" + told, guild.isSuspected(1), second + third != 0);
                CHECKS.due("13: meter 2" + told, guild.isSuspected(2), true);
                CHECKS.due("13: meter 3" + told, guild.isSuspected(3), third != 0);
                CHECKS.due("13: meter 5 of no house" + told, guild.isSuspected(5), false);
            }
        }
    }

    /** "By the last hour": what was set since does not tell yet. */
    private static void suspicionIsThatOfTheLastHour() {
        HeatGuild guild = forkWithHeat();
        guild.hour(8);
        guild.setError(3, 1);
        guild.setArea(4, 0);
        guild.load(-20);
        CHECKS.due("13: an error since", guild.isSuspected(3), false);
        CHECKS.due("12: an error since", guild.meter(3), 40);
        CHECKS.due("11: an area since", guild.got(4), 30);
        CHECKS.due("14: a pipe without a house since", guild.losses(), 15);
        guild.hour(8);
        CHECKS.due("13: an error in the hour", guild.isSuspected(3), true);
        guild.setError(3, 0);
        CHECKS.due("13: no error since", guild.isSuspected(3), true);
        guild.hour(18);
        guild.repair(3, 1);
        guild.hour(8);
        CHECKS.due("13: a shut pipe", guild.isSuspected(3), false);
    }
}
