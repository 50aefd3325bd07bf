import java.util.function.Supplier;

/**
 * Each range that the document gives an argument: the answers at both of its ends, and on either side
 * of it a refusal that changes nothing.
 */
public final class RangeTest {
    private static final Class<IndexOutOfBoundsException> INDEX = IndexOutOfBoundsException.class;
    private static final Class<IllegalArgumentException> ARGUMENT = IllegalArgumentException.class;
    private static final int HOME = 4;

    private interface Call {
        long on(Forwardroll desk, int argument);
    }

    public static void main(String[] args) {
        markets();
        dealing();
        drawingAndRolling();
        dealNumbers();
        dealNumbersWithoutDeals();
        dealNumbersWithTwentyDeals();
        settlement();
        Check.end("RangeTest");
    }

    /** On day 3: of deal 0 a half is left, of deal 1 nothing, deal 2 waits. */
    private static Forwardroll desk() {
        Forwardroll desk = new Forwardroll();
        desk.setRate(0, 12000);
        desk.setPoints(0, 10);
        desk.setRate(2, 7000);
        desk.deal(0, 0, true, 10000, 1, 30);
        desk.deal(0, 1, false, 500, 0, 20);
        desk.deal(1, 2, false, 3000, 10, 350);
        desk.draw(0, 4000);
        desk.pass(3);
        desk.draw(1, 500);
        desk.draw(0, 1000);
        return desk;
    }

    private static Forwardroll deskWithTwentyDeals() {
        Forwardroll desk = new Forwardroll();
        for (int i = 0; i < 20; i++) {
            desk.deal(0, 0, true, 1 + i, 0, 0);
        }
        return desk;
    }

    private static void range(String what, Class<? extends RuntimeException> refusal, Call call,
            int lowest, long dueAtLowest, int highest, long dueAtHighest) {
        rangeOn(RangeTest::desk, what, refusal, call, lowest, dueAtLowest, highest, dueAtHighest);
    }

    private static void rangeOn(Supplier<Forwardroll> made, String what, Class<? extends RuntimeException> refusal,
            Call call, int lowest, long dueAtLowest, int highest, long dueAtHighest) {
        Check.answers(what + " " + lowest, () -> call.on(made.get(), lowest), dueAtLowest);
        Check.answers(what + " " + highest, () -> call.on(made.get(), highest), dueAtHighest);
        for (int outside : new int[] {lowest - 1, highest + 1, Integer.MIN_VALUE, Integer.MAX_VALUE}) {
            Refused.call(what + " " + outside, refusal, made, desk -> call.on(desk, outside));
        }
    }

    private static void markets() {
        range("2: currency", INDEX, (desk, currency) -> desk.setRate(currency, 5), 0, 12000, 3, 10000);
        range("2: rate", ARGUMENT, RangeTest::forwardAfterSetRate, 1, 1, 100000, 100000);
        range("3: currency", INDEX, (desk, currency) -> desk.setPoints(currency, 5), 0, 10, 3, 0);
        range("3: points", ARGUMENT, RangeTest::forwardAfterSetPoints, -50, 9950, 50, 10050);
        rangeOn(Forwardroll::new, "4: day", ARGUMENT, (desk, day) -> desk.toggleHoliday(day) ? 1 : 0, 1, 1, 1000, 1);
        range("5: customer", INDEX, (desk, customer) -> desk.setLimit(customer, 5), 0, 1000000, 4, 1000000);
        range("5: limit", ARGUMENT, RangeTest::limitAfterSetLimit, 0, 0, 100000000, 100000000);
        range("6: currency", INDEX, (desk, currency) -> desk.forward(currency, 1), 0, 12010, 3, 10000);
        range("6: days", ARGUMENT, (desk, days) -> desk.forward(0, days), 0, 12000, 400, 16000);
    }

    private static long forwardAfterSetRate(Forwardroll desk, int rate) {
        desk.setRate(3, rate);
        return desk.forward(3, 0);
    }

    private static long forwardAfterSetPoints(Forwardroll desk, int points) {
        desk.setPoints(3, points);
        return desk.forward(3, 1);
    }

    private static long limitAfterSetLimit(Forwardroll desk, int limit) {
        desk.setLimit(4, limit);
        return desk.setLimit(4, 7);
    }

    private static void dealing() {
        range("7: customer", INDEX, RangeTest::exposureAfterDeal, 0, 1629, 4, 1000);
        range("7: currency", INDEX, RangeTest::rateAfterDeal, 0, 12010, 3, 10000);
        range("7: amount", ARGUMENT, RangeTest::leftAfterDeal, 1, 1, 1000000, 1000000);
        range("7: first day, the last as far as can be", ARGUMENT,
                (desk, first) -> windowAfterDeal(desk, first, 400), 0, 30403, 400, 4030403);
        range("7: first and last day", ARGUMENT,
                (desk, day) -> windowAfterDeal(desk, day, day), 0, 30003, 400, 4030403);
        range("7: last day, the first today", ARGUMENT,
                (desk, last) -> windowAfterDeal(desk, 0, last), 0, 30003, 400, 30403);
        range("7: last day, the first in between", ARGUMENT,
                (desk, last) -> windowAfterDeal(desk, 5, last), 5, 80008, 400, 80403);
        range("7: last day, the first as far as can be", ARGUMENT,
                (desk, last) -> windowAfterDeal(desk, 400, last), 400, 4030403, 400, 4030403);
    }

    private static long exposureAfterDeal(Forwardroll desk, int customer) {
        desk.deal(customer, 3, true, 10000, 0, 1);
        return desk.exposure(customer);
    }

    private static long rateAfterDeal(Forwardroll desk, int currency) {
        return desk.rate(desk.deal(4, currency, true, 10000, 0, 1));
    }

    private static long leftAfterDeal(Forwardroll desk, int amount) {
        return desk.left(desk.deal(4, 3, true, amount, 0, 1));
    }

    private static long windowAfterDeal(Forwardroll desk, int first, int last) {
        return desk.window(desk.deal(4, 3, true, 1, first, last));
    }

    private static void drawingAndRolling() {
        range("8: amount", ARGUMENT, (desk, amount) -> leftAfterDraw(desk, 0, amount), 1, 4999, 5000, 0);
        range("9: days, carried", ARGUMENT, (desk, days) -> desk.roll(0, days, false), 1, 12310, 100, 13300);
        range("9: days, settled", ARGUMENT, (desk, days) -> desk.roll(0, days, true), 1, 12280, 100, 13270);
    }

    private static long leftAfterDraw(Forwardroll desk, int deal, int amount) {
        desk.draw(deal, amount);
        return desk.left(deal);
    }

    private static void dealNumbers() {
        range("8: deal", INDEX, (desk, deal) -> desk.draw(deal, 1), 0, 12300, 2, 7000);
        range("9: deal, carried", INDEX, (desk, deal) -> desk.roll(deal, 1, false), 0, 12310, 2, 7000);
        range("9: deal, settled", INDEX, (desk, deal) -> desk.roll(deal, 1, true), 0, 12280, 2, 7000);
        range("10: deal", INDEX, Forwardroll::closeOut, 0, -15, 2, 0);
        range("11: deal", INDEX, Forwardroll::left, 0, 5000, 2, 3000);
        range("12: deal", INDEX, Forwardroll::rate, 0, 12300, 2, 7000);
        range("13: deal", INDEX, Forwardroll::window, 0, 10030, 2, 100350);
        range("14: deal", INDEX, Forwardroll::gain, 0, -15, 2, 0);
    }

    private static void dealNumbersWithoutDeals() {
        for (int deal : new int[] {-1, 0, 1, 19, 20}) {
            String what = "no deals, deal " + deal;
            Refused.call("8: " + what, INDEX, Forwardroll::new, desk -> desk.draw(deal, 1));
            Refused.call("9: " + what, INDEX, Forwardroll::new, desk -> desk.roll(deal, 1, true));
            Refused.call("10: " + what, INDEX, Forwardroll::new, desk -> desk.closeOut(deal));
            Refused.call("11: " + what, INDEX, Forwardroll::new, desk -> desk.left(deal));
            Refused.call("12: " + what, INDEX, Forwardroll::new, desk -> desk.rate(deal));
            Refused.call("13: " + what, INDEX, Forwardroll::new, desk -> desk.window(deal));
            Refused.call("14: " + what, INDEX, Forwardroll::new, desk -> desk.gain(deal));
        }
    }

    private static void dealNumbersWithTwentyDeals() {
        Supplier<Forwardroll> full = RangeTest::deskWithTwentyDeals;
        rangeOn(full, "8: of 20 deals, deal", INDEX, (desk, deal) -> leftAfterDraw(desk, deal, 1), 0, 0, 19, 19);
        rangeOn(full, "9: of 20 deals, deal", INDEX, RangeTest::windowAfterRoll, 0, 7, 19, 7);
        rangeOn(full, "10: of 20 deals, deal", INDEX, Forwardroll::closeOut, 0, 0, 19, 0);
        rangeOn(full, "11: of 20 deals, deal", INDEX, Forwardroll::left, 0, 1, 19, 20);
        rangeOn(full, "12: of 20 deals, deal", INDEX, Forwardroll::rate, 0, 10000, 19, 10000);
        rangeOn(full, "13: of 20 deals, deal", INDEX, Forwardroll::window, 0, 0, 19, 0);
        rangeOn(full, "14: of 20 deals, deal", INDEX, Forwardroll::gain, 0, 0, 19, 0);
    }

    private static long windowAfterRoll(Forwardroll desk, int deal) {
        desk.roll(deal, 7, false);
        return desk.window(deal);
    }

    private static void settlement() {
        range("15: customer", INDEX, Forwardroll::exposure, 0, 629, 4, 0);
        range("17: customer", INDEX, (desk, customer) -> desk.due(customer, HOME, 1), 0, -730, 4, 0);
        range("17: what", ARGUMENT, (desk, what) -> desk.due(0, what, 1), 0, 1000, HOME, -730);
        range("17: days", ARGUMENT, (desk, days) -> desk.due(0, 0, days), 1, 1000, 20, 0);
        range("18: customer", INDEX, (desk, customer) -> desk.balance(customer, 0), 0, 4000, 4, 0);
        range("18: what", ARGUMENT, (desk, what) -> desk.balance(0, what), 0, 4000, HOME, -4916);
        range("19: days", ARGUMENT, RangeTest::todayAfterPass, 1, 4, 100, 103);
    }

    private static long todayAfterPass(Forwardroll desk, int days) {
        desk.pass(days);
        return desk.today();
    }
}
