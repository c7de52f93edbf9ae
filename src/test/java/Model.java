import java.util.ArrayList;
import java.util.Comparator;
import java.util.List;

/**
 * What the document says, written as plainly as it is said there and by other ways than the class: each
 * question about a pipe walks the tree from that pipe, and nothing is kept from one hour to the next but
 * what the document names. A call that throws is answered by the exception's class.
 */
final class Model {
    private record Boiler(int number, int steps, int power, int cost) {
    }

    private final int[] from = new int[12];
    private final int[] loss = {0, 1, 1, 1, 1, 1, 1, 1, 1, 1, 1, 1};
    private final int[] area = new int[12];
    private final int[] error = new int[12];
    private final int[] opensAtHour = new int[12];
    private final List<Boiler> boilers = new ArrayList<>();
    private final List<Integer> temperatures = new ArrayList<>();
    private int[] fired = new int[4];
    private int[] got = new int[12];
    private int[] told = new int[12];
    private boolean[] suspected = new boolean[12];
    private int losses;
    private final int[] bill = new int[12];
    private int cost;

    private static boolean in(int value, int least, int most) {
        return least <= value && value <= most;
    }

    /** The answer to a call by its name: a number (a boolean counts 1 or 0), or the exception that is due. */
    Object answer(String call, int a, int b, int c) {
        switch (call) {
            case "feed":
                if (!in(a, 1, 11) || !in(b, 0, a - 1) || !in(c, 0, 20)) {
                    return IllegalArgumentException.class;
                }
                return temperatures.isEmpty() ? (Object) feed(a, b, c) : IllegalStateException.class;
            case "setArea":
                return in(a, 1, 11) && in(b, 0, 50) ? (Object) put(area, a, b) : IllegalArgumentException.class;
            case "addBoiler":
                if (!in(a, 1, 5) || !in(b, 1, 100) || !in(c, 1, 100)) {
                    return IllegalArgumentException.class;
                }
                if (boilers.size() == 4) {
                    return IllegalStateException.class;
                }
                boilers.add(new Boiler(boilers.size(), a, b, c));
                return boilers.size() - 1;
            case "setError":
                return in(a, 1, 11) && in(b, -20, 20) ? (Object) put(error, a, b) : IllegalArgumentException.class;
            case "repair":
                if (!in(a, 1, 11) || !in(b, 1, 20)) {
                    return IllegalArgumentException.class;
                }
                return isOpen(a) && isWarm() ? (Object) repair(a, b) : IllegalStateException.class;
            case "hour":
                return in(a, -20, 30) ? (Object) hour(a) : IllegalArgumentException.class;
            case "hours":
                return temperatures.size();
            case "load":
                return in(a, -20, 30) ? (Object) load(a) : IllegalArgumentException.class;
            case "fired":
                return in(a, 0, boilers.size() - 1) ? (Object) fired[a] : IndexOutOfBoundsException.class;
            case "losses":
                return losses;
            case "cost":
                return cost;
            default:
                return in(a, 1, 11) ? (Object) ofJunction(call, a) : IllegalArgumentException.class;
        }
    }

    private int ofJunction(String call, int junction) {
        return switch (call) {
            case "got" -> got[junction];
            case "meter" -> told[junction];
            case "isSuspected" -> suspected[junction] ? 1 : 0;
            case "bill" -> bill[junction];
            case "isOpen" -> isOpen(junction) ? 1 : 0;
            default -> throw new AssertionError(call);
        };
    }

    private static int put(int[] row, int junction, int value) {
        int before = row[junction];
        row[junction] = value;
        return before;
    }

    private int feed(int junction, int source, int itsLoss) {
        loss[junction] = itsLoss;
        return put(from, junction, source);
    }

    private boolean isWarm() {
        return temperatures.isEmpty() || temperatures.get(temperatures.size() - 1) >= 10;
    }

    private boolean isOpen(int junction) {
        return temperatures.size() >= opensAtHour[junction];
    }

    private boolean hasHeat(int junction) {
        return junction == 0 || isOpen(junction) && hasHeat(from[junction]);
    }

    private boolean isBehind(int junction, int pipe) {
        return junction == pipe || junction > 0 && isBehind(from[junction], pipe);
    }

    private int repair(int junction, int hours) {
        opensAtHour[junction] = temperatures.size() + hours;
        int cold = 0;
        for (int house = 1; house < 12; house++) {
            cold += area[house] > 0 && !hasHeat(house) ? 1 : 0;
        }
        return cold;
    }

    private int wish(int house, int temperature) {
        int product = area[house] * Math.max(0, 18 - temperature);
        return product / 10 + (product % 10 == 0 ? 0 : 1);
    }

    private int demand(int house, int temperature) {
        return hasHeat(house) ? wish(house, temperature) : 0;
    }

    private boolean carries(int pipe, int temperature) {
        boolean demanded = false;
        for (int house = 1; house < 12; house++) {
            demanded |= isBehind(house, pipe) && demand(house, temperature) > 0;
        }
        return hasHeat(pipe) && demanded;
    }

    private int lossOf(int pipe, int temperature) {
        return carries(pipe, temperature) ? loss[pipe] : 0;
    }

    private int allLosses(int temperature) {
        int sum = 0;
        for (int pipe = 1; pipe < 12; pipe++) {
            sum += lossOf(pipe, temperature);
        }
        return sum;
    }

    private int load(int temperature) {
        int sum = allLosses(temperature);
        for (int house = 1; house < 12; house++) {
            sum += demand(house, temperature);
        }
        return sum;
    }

    private int hour(int temperature) {
        int load = load(temperature);
        int power = boilers.stream().mapToInt(boiler -> boiler.steps * boiler.power).sum();
        losses = allLosses(temperature);
        serve(temperature, load, power);
        fire(load);
        readMeters(temperature);
        for (int house = 1; house < 12; house++) {
            bill[house] += 2 * got[house];
            if (load > power / 2.0) {
                bill[house] += got[house];
            }
            if (!hasHeat(house) && wish(house, temperature) > 0) {
                bill[house] -= 3;
            }
        }
        temperatures.add(temperature);
        return load;
    }

    private void serve(int temperature, int load, int power) {
        got = new int[12];
        int left = power < load ? power - losses : Integer.MAX_VALUE;
        for (int house = 1; house < 12 && left > 0; house++) {
            got[house] = Math.min(left, demand(house, temperature));
            left -= got[house];
        }
    }

    private void fire(int load) {
        fired = new int[4];
        List<Boiler> order = new ArrayList<>(boilers);
        order.sort(Comparator.comparingInt(Boiler::cost).thenComparingInt(Boiler::number));
        int left = load;
        for (Boiler boiler : order) {
            int used = Math.min(left, boiler.steps * boiler.power);
            fired[boiler.number] = (used + boiler.power - 1) / boiler.power;
            cost += used * boiler.cost;
            left -= used;
        }
    }

    private void readMeters(int temperature) {
        told = new int[12];
        for (int pipe = 1; pipe < 12; pipe++) {
            if (!carries(pipe, temperature)) {
                continue;
            }
            told[pipe] = error[pipe] - loss[pipe];
            for (int behind = 1; behind < 12; behind++) {
                told[pipe] += isBehind(behind, pipe) ? got[behind] + lossOf(behind, temperature) : 0;
            }
        }
        suspected = new boolean[12];
        for (int pipe = 1; pipe < 12; pipe++) {
            int sum = got[pipe];
            for (int next = 1; next < 12; next++) {
                sum += from[next] == pipe ? told[next] + lossOf(next, temperature) : 0;
            }
            suspected[pipe] = told[pipe] != sum;
        }
    }
}
