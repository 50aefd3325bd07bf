import java.util.Arrays;
import java.util.Random;

/** All promises at once: long runs of chance calls, each answered alike by the desk and the model. */
public final class ModelTest {
    private static final int RUNS = 3000;
    private static final int CALLS = 512;
    private static final String[] CALL_NAMES = {
        "setRate", "setRate", "setPoints", "setPoints", "toggleHoliday", "toggleHoliday", "setLimit", "forward",
        "deal", "deal", "deal", "draw", "draw", "draw", "roll", "roll", "roll", "closeOut", "left", "rate", "window",
        "gain", "gain", "exposure", "exposure", "settlementDay", "due", "due", "due", "balance", "balance", "pass",
        "pass", "today"};
    private static final int[] WILD = {-1, 0, 1, 2, 3, 4, 5, 19, 20, 21, 50, 51, -50, -51, 100, 101, 400, 401, 1000,
        1001, 100000, 100001, 1000000, 1000001, 100000000, 100000001, Integer.MIN_VALUE, Integer.MAX_VALUE};

    public static void main(String[] args) {
        for (int run = 0; run < RUNS; run++) {
            if (!runIsAlike(run)) {
                break;
            }
        }
        Check.end("ModelTest");
    }

    /** Stops a run at its first difference, since all that follows may differ by that. */
    private static boolean runIsAlike(int run) {
        Random random = new Random(run);
        Forwardroll desk = new Forwardroll();
        Model model = new Model();
        int longestPass = 1 + random.nextInt(run % 3 == 0 ? 100 : 5);
        for (int i = 0; i < CALLS; i++) {
            String call = CALL_NAMES[random.nextInt(CALL_NAMES.length)];
            int[] a = arguments(random, call, desk, longestPass);
            String due = due(model, call, a);
            String got = got(desk, call, a);
            Check.holds("run " + run + ", call " + i + ": " + call + Arrays.toString(a) + " answered " + got
                    + ", due is " + due + ":", got.equals(due));
            if (!got.equals(due)) {
                return false;
            }
        }
        return true;
    }

    private static String due(Model model, String call, int[] a) {
        int refusal = model.refusal(call, a);
        switch (refusal) {
            case Model.INDEX: return "java.lang.IndexOutOfBoundsException";
            case Model.ARGUMENT: return "java.lang.IllegalArgumentException";
            case Model.STATE: return "java.lang.IllegalStateException";
            default: return Long.toString(model.answer(call, a));
        }
    }

    private static String got(Forwardroll desk, String call, int[] a) {
        try {
            return Long.toString(answer(desk, call, a));
        } catch (RuntimeException thrown) {
            return thrown.getClass().getName();
        }
    }

    private static long answer(Forwardroll desk, String call, int[] a) {
        switch (call) {
            case "setRate": return desk.setRate(a[0], a[1]);
            case "setPoints": return desk.setPoints(a[0], a[1]);
            case "toggleHoliday": return desk.toggleHoliday(a[0]) ? 1 : 0;
            case "setLimit": return desk.setLimit(a[0], a[1]);
            case "forward": return desk.forward(a[0], a[1]);
            case "deal": return desk.deal(a[0], a[1], a[2] == 1, a[3], a[4], a[5]);
            case "draw": return desk.draw(a[0], a[1]);
            case "roll": return desk.roll(a[0], a[1], a[2] == 1);
            case "closeOut": return desk.closeOut(a[0]);
            case "left": return desk.left(a[0]);
            case "rate": return desk.rate(a[0]);
            case "window": return desk.window(a[0]);
            case "gain": return desk.gain(a[0]);
            case "exposure": return desk.exposure(a[0]);
            case "settlementDay": return desk.settlementDay();
            case "due": return desk.due(a[0], a[1], a[2]);
            case "balance": return desk.balance(a[0], a[1]);
            case "pass": return desk.pass(a[0]);
            default: return desk.today();
        }
    }

    private static int[] arguments(Random random, String call, Forwardroll desk, int longestPass) {
        int[] a = likely(random, call, desk.today(), longestPass);
        for (int i = 0; i < a.length; i++) {
            if (random.nextInt(60) == 0) {
                a[i] = WILD[random.nextInt(WILD.length)];
            }
        }
        return a;
    }

    private static int[] likely(Random random, String call, int today, int longestPass) {
        int customer = random.nextInt(5);
        int currency = random.nextInt(4);
        int deal = random.nextInt(random.nextInt(4) == 0 ? 21 : 8);
        switch (call) {
            case "setRate": return new int[] {currency, random.nextBoolean() ? 8000 + random.nextInt(4000) : skewed(random, 100000)};
            case "setPoints": return new int[] {currency, random.nextInt(101) - 50};
            case "toggleHoliday": return new int[] {today + random.nextInt(12)};
            case "setLimit": return new int[] {customer, skewed(random, 100000000) - 1};
            case "forward": return new int[] {currency, random.nextInt(401)};
            case "deal": return window(random, customer, currency);
            case "draw": return new int[] {deal, skewed(random, 100000)};
            case "roll": return new int[] {deal, skewed(random, 100), random.nextInt(2)};
            case "closeOut": return new int[] {random.nextInt(21)};
            case "left": case "rate": case "window": case "gain": return new int[] {deal};
            case "exposure": return new int[] {customer};
            case "due": return new int[] {customer, random.nextInt(5), skewed(random, 20)};
            case "balance": return new int[] {customer, random.nextInt(5)};
            case "pass": return new int[] {1 + random.nextInt(longestPass)};
            default: return new int[0];
        }
    }

    private static int[] window(Random random, int customer, int currency) {
        int first = random.nextInt(3) == 0 ? 0 : skewed(random, 400);
        int last = Math.min(400, first + skewed(random, 60) - 1);
        return new int[] {customer, currency, random.nextInt(2), skewed(random, 1000000), first, last};
    }

    /** 1 to most, with as many small numbers as great ones. */
    private static int skewed(Random random, int most) {
        int bound = 1;
        while (bound < most && random.nextInt(6) != 0) {
            bound = Math.min(most, bound * 4);
        }
        return 1 + random.nextInt(bound);
    }
}
