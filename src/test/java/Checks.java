/** Counts and prints the answers that are not as due. */
final class Checks {
    interface Call {
        long answer();
    }

    private static final long MOST_MILLISECONDS = 300_000;

    private int asked = 0;
    private int wrong = 0;

    Checks() {
        Thread watch = new Thread(Checks::endLateTest);
        watch.setDaemon(true);
        watch.start();
    }

    void due(String call, long answer, long want) {
        asked++;
        if (answer != want) {
            report(call + " answered " + answer + ", due is " + want);
        }
    }

    void due(String call, boolean answer, boolean want) {
        asked++;
        if (answer != want) {
            report(call + " answered " + answer + ", due is " + want);
        }
    }

    void due(String call, String answer, String want) {
        asked++;
        if (!answer.equals(want)) {
            report(call + " answered " + answer + ", due is " + want);
        }
    }

    void dueThrow(String call, Class<? extends RuntimeException> want, Call made) {
        asked++;
        try {
            report(call + " answered " + made.answer() + ", due is " + want.getSimpleName());
        } catch (RuntimeException e) {
            if (e.getClass() != want) {
                report(call + " threw " + e + ", due is " + want.getSimpleName());
            } else if (!isThrownByTheClass(e)) {
                report(call + " let the machine or the library throw " + e);
            }
        }
    }

    void dueIllegalArgument(String call, Call made) {
        dueThrow(call, IllegalArgumentException.class, made);
    }

    void dueIllegalState(String call, Call made) {
        dueThrow(call, IllegalStateException.class, made);
    }

    /** Calls with each number of a junction that has no house. */
    void dueIllegalJunctions(String call, java.util.function.IntFunction<Call> madeFor) {
        for (int junction : new int[] {0, -1, 12, Integer.MIN_VALUE, Integer.MAX_VALUE}) {
            dueIllegalArgument(call + " of junction " + junction, madeFor.apply(junction));
        }
    }

    /** Prints a verdict, and ends with exit code 1 if an answer was wrong. */
    void finish(String name) {
        System.out.println(name + ": " + asked + " answers asked, " + wrong + " wrong");
        if (wrong > 0 || asked == 0) {
            System.exit(1);
        }
    }

    private void report(String text) {
        wrong++;
        // a broken promise may show in thousands of random calls
        if (wrong <= 20) {
            System.out.println(text);
        }
    }

    /** A call that never ends would hold up .ci/run for as long as it may run. */
    private static void endLateTest() {
        try {
            Thread.sleep(MOST_MILLISECONDS);
        } catch (InterruptedException e) {
            return;
        }
        System.out.println("the test has not ended in time");
        Runtime.getRuntime().halt(1);
    }

    private static boolean isThrownByTheClass(RuntimeException e) {
        StackTraceElement[] trace = e.getStackTrace();
        return trace.length > 0 && trace[0].getClassName().startsWith("HeatGuild");
    }
}
