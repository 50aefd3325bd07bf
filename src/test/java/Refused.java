import java.util.function.Consumer;
import java.util.function.Supplier;

/**
 * Tries a call that is to be refused on one of two desks made alike. Then both are asked the same,
 * by calls that change them too, so that limits, points, holidays and what is due later are seen.
 */
final class Refused {
    private static final int DEALS = 20;

    private Refused() {
    }

    static void call(String what, Class<? extends RuntimeException> due, Supplier<Forwardroll> made,
            Consumer<Forwardroll> call) {
        Forwardroll tried = made.get();
        Check.refused(what, due, () -> call.accept(tried));
        String got = answersOf(tried);
        String untried = answersOf(made.get());
        if (got.equals(untried)) {
            Check.holds(what + " changes nothing", true);
        } else {
            Check.report(what + " changes the desk:\n" + got + "\ndue is\n" + untried);
        }
    }

    /** Some 280 calls, so a desk that is tried may have seen some 230 before. */
    private static String answersOf(Forwardroll desk) {
        StringBuilder answers = new StringBuilder();
        deals(desk, answers);
        customers(desk, answers);
        market(desk, answers);
        later(desk, answers);
        return answers.toString();
    }

    private static void deals(Forwardroll desk, StringBuilder answers) {
        for (int i = 0; i < DEALS; i++) {
            int deal = i;
            add(answers, () -> desk.left(deal));
            add(answers, () -> desk.rate(deal));
            add(answers, () -> desk.window(deal));
            add(answers, () -> desk.gain(deal));
        }
        answers.append('\n');
    }

    private static void customers(Forwardroll desk, StringBuilder answers) {
        int days = Math.min(20, desk.settlementDay() - desk.today());
        for (int i = 0; i < 5; i++) {
            int customer = i;
            add(answers, () -> desk.exposure(customer));
            for (int k = 0; k < 5; k++) {
                int what = k;
                add(answers, () -> desk.balance(customer, what));
                add(answers, () -> desk.due(customer, what, days));
            }
            add(answers, () -> desk.setLimit(customer, 100000000));
        }
        answers.append('\n');
    }

    private static void market(Forwardroll desk, StringBuilder answers) {
        add(answers, desk::today);
        add(answers, desk::settlementDay);
        for (int i = 0; i < 4; i++) {
            int currency = i;
            add(answers, () -> desk.setRate(currency, 10000));
            add(answers, () -> desk.setPoints(currency, 0));
        }
        for (int days = 1; days <= 10; days++) {
            int day = desk.today() + days;
            add(answers, () -> desk.toggleHoliday(day));
            add(answers, () -> desk.toggleHoliday(day));
        }
        add(answers, () -> desk.toggleHoliday(1000));
        answers.append('\n');
    }

    private static void later(Forwardroll desk, StringBuilder answers) {
        add(answers, () -> desk.deal(0, 0, true, 1, 0, 0));
        int days = Math.min(30, 1000 - desk.today());
        if (days > 0) {
            add(answers, () -> desk.pass(days));
        }
        for (int i = 0; i < 5; i++) {
            int customer = i;
            for (int k = 0; k < 5; k++) {
                int what = k;
                add(answers, () -> desk.balance(customer, what));
            }
        }
    }

    /** A refusal is an answer, too. */
    private static void add(StringBuilder answers, Supplier<Object> asked) {
        try {
            answers.append(asked.get());
        } catch (RuntimeException thrown) {
            answers.append(thrown.getClass().getName());
        }
        answers.append(' ');
    }
}
