import java.util.Random;

/** All promises: random runs of calls, wrong ones among them, each answer against the model's. */
public final class ModelTest {
    private static final int RUNS = 4000;
    // what an object is used for, and what of it is kept for asking for everything in the end
    private static final int CALLS = 512;
    private static final int LAST_QUESTIONS = 5 * 11 + 4 + 3;
    private static final int[] WILD = {
        Integer.MIN_VALUE, Integer.MIN_VALUE + 1, -1000, -21, -20, -1, 0, 1, 4, 5, 6, 11, 12, 13, 20, 21, 30, 31, 50,
        51, 100, 101, 1 << 30, Integer.MAX_VALUE};
    private static final String[] CHANGES = {
        "setArea", "setArea", "setError", "repair", "hour", "hour", "hour", "addBoiler"};
    private static final String[] QUESTIONS = {
        "hours", "load", "load", "fired", "fired", "got", "got", "meter", "meter", "isSuspected", "isSuspected",
        "losses", "bill", "bill", "cost", "isOpen"};
    private static final Checks CHECKS = new Checks();

    private final Random random;
    private final int run;
    private final HeatGuild guild = new HeatGuild();
    private final Model model = new Model();
    // how cold, how large and how wrong this run is, so that runs differ more than calls do
    private final int warmest;
    private final int largest;
    private final int powerful;
    private final int wrongPercent;

    private ModelTest(int run) {
        this.run = run;
        // a written seed: each run of the test makes the same calls
        random = new Random(4711L + run);
        warmest = 10 + random.nextInt(21);
        largest = 1 + random.nextInt(50);
        powerful = 1 + random.nextInt(100);
        wrongPercent = random.nextInt(8);
    }

    public static void main(String[] args) {
        for (int run = 0; run < RUNS; run++) {
            new ModelTest(run).play();
        }
        CHECKS.finish("ModelTest");
    }

    private void play() {
        int made = 0;
        int feeds = random.nextInt(40);
        for (; made < feeds; made++) {
            make(random.nextInt(3) > 0 ? "feed" : random.nextBoolean() ? "load" : "setArea");
        }
        for (; made < CALLS - LAST_QUESTIONS; made++) {
            if (random.nextInt(50) == 0) {
                make("feed");
            } else {
                String[] kinds = random.nextInt(3) == 0 ? CHANGES : QUESTIONS;
                make(kinds[random.nextInt(kinds.length)]);
            }
        }
        askEverything();
    }

    private void askEverything() {
        for (String call : new String[] {"got", "meter", "isSuspected", "bill", "isOpen"}) {
            for (int junction = 1; junction <= 11; junction++) {
                compare(call, junction, 0, 0);
            }
        }
        for (int boiler = 0; boiler < 4; boiler++) {
            compare("fired", boiler, 0, 0);
        }
        compare("hours", 0, 0, 0);
        compare("losses", 0, 0, 0);
        compare("cost", 0, 0, 0);
    }

    private void make(String call) {
        int[] values = arguments(call);
        if (random.nextInt(100) < wrongPercent) {
            values[random.nextInt(3)] = WILD[random.nextInt(WILD.length)];
        }
        compare(call, values[0], values[1], values[2]);
    }

    private int[] arguments(String call) {
        int junction = 1 + random.nextInt(11);
        return switch (call) {
            case "feed" -> new int[] {junction, random.nextInt(junction), random.nextInt(21)};
            case "setArea" -> new int[] {junction, random.nextInt(4) == 0 ? 0 : random.nextInt(largest + 1), 0};
            case "addBoiler" -> new int[] {1 + random.nextInt(5), 1 + random.nextInt(powerful), 1 + random.nextInt(5)};
            case "setError" -> new int[] {junction, random.nextInt(41) - 20, 0};
            case "repair" -> new int[] {junction, 1 + random.nextInt(random.nextBoolean() ? 3 : 20), 0};
            case "hour", "load" -> new int[] {random.nextInt(warmest + 21) - 20, 0, 0};
            case "fired" -> new int[] {random.nextInt(random.nextBoolean() ? 4 : 2), 0, 0};
            default -> new int[] {junction, 0, 0};
        };
    }

    private void compare(String call, int a, int b, int c) {
        String told = "run " + run + ": " + call + "(" + a + ", " + b + ", " + c + ")";
        Object due = model.answer(call, a, b, c);
        if (due instanceof Integer number) {
            try {
                CHECKS.due(told, ask(call, a, b, c), number);
            } catch (RuntimeException e) {
                CHECKS.due(told + " threw " + e + ",", 1, 0);
            }
        } else {
            CHECKS.dueThrow(told, ((Class<?>) due).asSubclass(RuntimeException.class), () -> ask(call, a, b, c));
        }
    }

    private long ask(String call, int a, int b, int c) {
        return switch (call) {
            case "feed" -> guild.feed(a, b, c);
            case "setArea" -> guild.setArea(a, b);
            case "addBoiler" -> guild.addBoiler(a, b, c);
            case "setError" -> guild.setError(a, b);
            case "repair" -> guild.repair(a, b);
            case "hour" -> guild.hour(a);
            case "hours" -> guild.hours();
            case "load" -> guild.load(a);
            case "fired" -> guild.fired(a);
            case "got" -> guild.got(a);
            case "meter" -> guild.meter(a);
            case "isSuspected" -> guild.isSuspected(a) ? 1 : 0;
            case "losses" -> guild.losses();
            case "bill" -> guild.bill(a);
            case "cost" -> guild.cost();
            case "isOpen" -> guild.isOpen(a) ? 1 : 0;
            default -> throw new AssertionError(call);
        };
    }
}
