import java.util.function.LongSupplier;

/** Counts and prints the answers that are not as due; a test ends with exit code 1 if there was one. */
final class Check {
    private static int asked = 0;
    private static int wrong = 0;

    private Check() {
    }

    static void equal(String what, long got, long due) {
        asked++;
        if (got != due) {
            report(what + " answered " + got + ", due is " + due);
        }
    }

    static void holds(String what, boolean got) {
        equal(what, got ? 1 : 0, 1);
    }

    /** Reports what is thrown instead of an answer, and goes on. */
    static void answers(String what, LongSupplier call, long due) {
        try {
            equal(what, call.getAsLong(), due);
        } catch (RuntimeException thrown) {
            asked++;
            report(what + " threw " + thrown.getClass().getName() + ", due is " + due);
        }
    }

    /** Asks for the very class, so that the machine's own ArrayIndexOutOfBoundsException is wrong, too. */
    static void refused(String what, Class<? extends RuntimeException> due, Runnable call) {
        asked++;
        try {
            call.run();
            report(what + " threw nothing, due is " + due.getName());
        } catch (RuntimeException thrown) {
            if (thrown.getClass() != due) {
                report(what + " threw " + thrown.getClass().getName() + ", due is " + due.getName());
            }
        }
    }

    static void report(String text) {
        wrong++;
        System.out.println("wrong: " + text);
    }

    static void end(String test) {
        System.out.println(test + ": " + asked + " answers asked, " + wrong + " not as due");
        if (wrong != 0 || asked == 0) {
            System.exit(1);
        }
    }
}
