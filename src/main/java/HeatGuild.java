/** A guild of boilers that sells heat through a tree of pipes to houses. */
public final class HeatGuild {
    private static final int JUNCTIONS = 12;
    private static final int MOST_LOSS = 20;
    private static final int MOST_AREA = 50;
    private static final int MOST_ERROR = 20;
    private static final int MOST_REPAIR_HOURS = 20;
    private static final int MOST_BOILERS = 4;
    private static final int MOST_STEPS = 5;
    private static final int MOST_POWER = 100;
    private static final int MOST_PRICE = 100;
    private static final int COLDEST = -20;
    private static final int HOTTEST = 30;
    private static final int HEATED_BELOW = 18;
    private static final int REPAIRED_FROM = 10;
    private static final int UNIT_PRICE = 2;
    private static final int PEAK_UNIT_PRICE = 3;
    private static final int PAID_WITHOUT_HEAT = 3;

    private final Net net;
    private final Plant plant;
    private final Meters meters;
    private final int[] billed;
    private int passedHours;
    private int lastTemperature;
    private int lastLosses;

    public HeatGuild() {
        net = new Net();
        plant = new Plant();
        meters = new Meters();
        billed = new int[JUNCTIONS];
    }

    // ---- the net

    public int feed(int junction, int from, int loss) throws IllegalArgumentException, IllegalStateException {
        if (!isHouse(junction) || !isWithin(from, 0, junction - 1) || !isWithin(loss, 0, MOST_LOSS)) {
            throw new IllegalArgumentException("junction, from or loss is out of range");
        }
        if (passedHours > 0) {
            throw new IllegalStateException("an hour has passed");
        }
        int before = net.source[junction];
        net.source[junction] = from;
        net.loss[junction] = loss;
        return before;
    }

    public int setArea(int junction, int area) throws IllegalArgumentException {
        if (!isHouse(junction) || !isWithin(area, 0, MOST_AREA)) {
            throw new IllegalArgumentException("junction or area is out of range");
        }
        int before = net.area[junction];
        net.area[junction] = area;
        return before;
    }

    public int addBoiler(int steps, int power, int cost) throws IllegalArgumentException, IllegalStateException {
        if (!isWithin(steps, 1, MOST_STEPS) || !isWithin(power, 1, MOST_POWER) || !isWithin(cost, 1, MOST_PRICE)) {
            throw new IllegalArgumentException("steps, power or cost is out of range");
        }
        if (plant.count >= MOST_BOILERS) {
            throw new IllegalStateException("there are 4 boilers");
        }
        return plant.add(steps, power, cost);
    }

    public int setError(int junction, int error) throws IllegalArgumentException {
        if (!isHouse(junction) || !isWithin(error, -MOST_ERROR, MOST_ERROR)) {
            throw new IllegalArgumentException("junction or error is out of range");
        }
        int before = meters.error[junction];
        meters.error[junction] = error;
        return before;
    }

    public int repair(int junction, int hours) throws IllegalArgumentException, IllegalStateException {
        if (!isHouse(junction) || !isWithin(hours, 1, MOST_REPAIR_HOURS)) {
            throw new IllegalArgumentException("junction or hours is out of range");
        }
        if (net.shutHours[junction] > 0) {
            throw new IllegalStateException("the valve is shut");
        }
        if (passedHours > 0 && lastTemperature < REPAIRED_FROM) {
            throw new IllegalStateException("the last hour was too cold");
        }
        net.shutHours[junction] = hours;
        return net.countHousesWithoutHeat();
    }

    // ---- hours

    public int hour(int temperature) throws IllegalArgumentException {
        requireTemperature(temperature);
        int whole = net.survey(temperature);
        net.serve(plant.allPower);
        plant.fire(whole);
        meters.read(net);
        charge(temperature, isPeak(whole));
        net.endHourOfRepairs();
        lastLosses = net.surveyedLosses;
        lastTemperature = temperature;
        passedHours++;
        return whole;
    }

    public int hours() {
        return passedHours;
    }

    public int load(int temperature) throws IllegalArgumentException {
        requireTemperature(temperature);
        return net.survey(temperature);
    }

    // ---- the last hour

    public int fired(int boiler) throws IndexOutOfBoundsException {
        Boiler found = plant.find(boiler);
        if (found == null) {
            throw new IndexOutOfBoundsException("there is no such boiler");
        }
        return found.firedSteps;
    }

    public int got(int junction) throws IllegalArgumentException {
        if (!isHouse(junction)) {
            throw new IllegalArgumentException("junction is out of range");
        }
        return net.served[junction];
    }

    public int meter(int junction) throws IllegalArgumentException {
        if (!isHouse(junction)) {
            throw new IllegalArgumentException("junction is out of range");
        }
        return meters.told[junction];
    }

    public boolean isSuspected(int junction) throws IllegalArgumentException {
        if (!isHouse(junction)) {
            throw new IllegalArgumentException("junction is out of range");
        }
        return meters.suspected[junction];
    }

    public int losses() {
        return lastLosses;
    }

    // ---- all hours

    public int bill(int junction) throws IllegalArgumentException {
        if (!isHouse(junction)) {
            throw new IllegalArgumentException("junction is out of range");
        }
        return billed[junction];
    }

    public int cost() {
        return plant.spent;
    }

    public boolean isOpen(int junction) throws IllegalArgumentException {
        if (!isHouse(junction)) {
            throw new IllegalArgumentException("junction is out of range");
        }
        return net.shutHours[junction] == 0;
    }

    private boolean isPeak(int whole) {
        // doubled, since half of an odd power is no whole number
        return 2 * whole > plant.allPower;
    }

    private void charge(int temperature, boolean peak) {
        int price = peak ? PEAK_UNIT_PRICE : UNIT_PRICE;
        for (int junction = 1; junction < JUNCTIONS; junction++) {
            if (net.heated[junction]) {
                billed[junction] += price * net.served[junction];
            } else if (wantedHeat(net.area[junction], temperature) > 0) {
                billed[junction] -= PAID_WITHOUT_HEAT;
            }
        }
    }

    private static void requireTemperature(int temperature) {
        if (!isWithin(temperature, COLDEST, HOTTEST)) {
            throw new IllegalArgumentException("temperature is out of range");
        }
    }

    /** Whether there is a house at the number: junction 0, the boiler house, has neither house, pipe nor meter. */
    private static boolean isHouse(int junction) {
        return junction >= 1 && junction < JUNCTIONS;
    }

    private static boolean isWithin(int value, int least, int most) {
        return value >= least && value <= most;
    }

    private static int wantedHeat(int area, int temperature) {
        if (temperature >= HEATED_BELOW) {
            return 0;
        }
        return (area * (HEATED_BELOW - temperature) + 9) / 10;
    }

    /**
     * The pipes, each by the number of the junction that it feeds, and the houses. A junction's
     * source has a lower number: loops that rise see the source first, loops that fall see it last.
     */
    private static final class Net {
        private final int[] source = new int[JUNCTIONS];
        private final int[] loss = new int[JUNCTIONS];
        private final int[] area = new int[JUNCTIONS];
        private final int[] shutHours = new int[JUNCTIONS];
        private final int[] served = new int[JUNCTIONS];
        // These four belong to the latest survey, which load makes too: they are no answers of the last hour.
        private final boolean[] heated = new boolean[JUNCTIONS];
        private final boolean[] carries = new boolean[JUNCTIONS];
        private final int[] demand = new int[JUNCTIONS];
        private int surveyedLosses;

        private Net() {
            for (int junction = 1; junction < JUNCTIONS; junction++) {
                loss[junction] = 1;
            }
        }

        /** Works out demands, pipes and losses at a temperature, and returns the load. */
        private int survey(int temperature) {
            markHeated();
            int demands = 0;
            for (int junction = 1; junction < JUNCTIONS; junction++) {
                demand[junction] = heated[junction] ? wantedHeat(area[junction], temperature) : 0;
                demands += demand[junction];
            }
            markCarries();
            surveyedLosses = 0;
            for (int junction = 1; junction < JUNCTIONS; junction++) {
                surveyedLosses += carriedLoss(junction);
            }
            return demands + surveyedLosses;
        }

        private void markHeated() {
            for (int junction = 1; junction < JUNCTIONS; junction++) {
                int from = source[junction];
                boolean sourceHeated = !isHouse(from) || heated[from];
                heated[junction] = sourceHeated && shutHours[junction] == 0;
            }
        }

        private void markCarries() {
            for (int junction = 1; junction < JUNCTIONS; junction++) {
                carries[junction] = demand[junction] > 0;
            }
            for (int junction = JUNCTIONS - 1; junction >= 1; junction--) {
                int from = source[junction];
                if (carries[junction] && isHouse(from)) {
                    carries[from] = true;
                }
            }
        }

        private int carriedLoss(int junction) {
            return isHouse(junction) && carries[junction] ? loss[junction] : 0;
        }

        /** Gives the houses of the latest survey what the power leaves behind all losses. */
        private void serve(int power) {
            int left = Math.max(0, power - surveyedLosses);
            for (int junction = 1; junction < JUNCTIONS; junction++) {
                served[junction] = Math.min(demand[junction], left);
                left -= served[junction];
            }
        }

        private int countHousesWithoutHeat() {
            markHeated();
            int count = 0;
            for (int junction = 1; junction < JUNCTIONS; junction++) {
                if (area[junction] > 0 && !heated[junction]) {
                    count++;
                }
            }
            return count;
        }

        private void endHourOfRepairs() {
            for (int junction = 1; junction < JUNCTIONS; junction++) {
                if (shutHours[junction] > 0) {
                    shutHours[junction]--;
                }
            }
        }
    }

    /** The meters, each by the number of its pipe. */
    private static final class Meters {
        private final int[] error = new int[JUNCTIONS];
        private final int[] told = new int[JUNCTIONS];
        private final boolean[] suspected = new boolean[JUNCTIONS];
        private final int[] flow = new int[JUNCTIONS];
        private final int[] accounted = new int[JUNCTIONS];

        private void read(Net net) {
            for (int junction = 1; junction < JUNCTIONS; junction++) {
                flow[junction] = net.served[junction];
                accounted[junction] = net.served[junction];
            }
            // falling, so that all that goes on from a junction is added up before its own meter is read
            for (int junction = JUNCTIONS - 1; junction >= 1; junction--) {
                told[junction] = net.carries[junction] ? flow[junction] + error[junction] : 0;
                suspected[junction] = told[junction] != accounted[junction];
                int from = net.source[junction];
                if (isHouse(from)) {
                    int lost = net.carriedLoss(junction);
                    flow[from] += flow[junction] + lost;
                    accounted[from] += told[junction] + lost;
                }
            }
        }
    }

    /** The boilers, as a chain in the order in which they are fired. */
    private static final class Plant {
        private Boiler first;
        private int count;
        private int allPower;
        private int spent;

        private int add(int steps, int power, int price) {
            Boiler added = new Boiler(count, steps, power, price);
            Boiler before = lastFiredBefore(price);
            if (before == null) {
                added.next = first;
                first = added;
            } else {
                added.next = before.next;
                before.next = added;
            }
            count++;
            allPower += steps * power;
            return added.number;
        }

        /** The last boiler that is fired before a new one of the price; of the same price the older ones are. */
        private Boiler lastFiredBefore(int price) {
            Boiler last = null;
            for (Boiler boiler = first; boiler != null && boiler.price <= price; boiler = boiler.next) {
                last = boiler;
            }
            return last;
        }

        private Boiler find(int number) {
            for (Boiler boiler = first; boiler != null; boiler = boiler.next) {
                if (boiler.number == number) {
                    return boiler;
                }
            }
            return null;
        }

        private void fire(int whole) {
            int left = whole;
            for (Boiler boiler = first; boiler != null; boiler = boiler.next) {
                int used = boiler.fireFor(left);
                spent += used * boiler.price;
                left -= used;
            }
        }
    }

    private static final class Boiler {
        private final int number;
        private final int steps;
        private final int power;
        private final int price;
        private int firedSteps;
        private Boiler next;

        private Boiler(int number, int steps, int power, int price) {
            this.number = number;
            this.steps = steps;
            this.power = power;
            this.price = price;
        }

        /** Fires as few steps as are enough for what is left, but at most all, and returns what is used of them. */
        private int fireFor(int left) {
            firedSteps = 0;
            while (firedSteps < steps && firedSteps * power < left) {
                firedSteps++;
            }
            return Math.min(left, firedSteps * power);
        }
    }
}
