import java.util.List;
import java.util.function.Supplier;

/**
 * Each call that is not possible now, next to the one that just is; which exception goes first if
 * several apply; and that a refused call changes nothing. RangeTest has the ranges of the arguments.
 */
public final class RefusalTest {
    private static final Class<IndexOutOfBoundsException> INDEX = IndexOutOfBoundsException.class;
    private static final Class<IllegalArgumentException> ARGUMENT = IllegalArgumentException.class;
    private static final Class<IllegalStateException> STATE = IllegalStateException.class;

    public static void main(String[] args) {
        holidayNotLaterThanToday();
        moreThanTwentyDeals();
        twentyDealsThatAreOver();
        buyersExposureAboveTheLimit();
        sellersExposureAboveTheLimit();
        exposureAboveTheFirstLimit();
        limitOfZero();
        exposureOfAllDealsAboveTheLimit();
        exposureAboveTheLimitAlready();
        drawnMoreThanIsLeft();
        nothingLeftAfterDrawing();
        nothingLeftAfterClosingOut();
        nothingLeftAfterTheLastDay();
        rolledTooFarAhead();
        rolledTooFarAheadOnALaterDay();
        passedBehindDay1000();
        passedBehindDay1000WithDealsThatWouldEnd();
        indexBeforeArgument();
        indexBeforeArgumentAndState();
        indexBeforeState();
        argumentBeforeState();
        Check.end("RefusalTest");
    }

    private static void holidayNotLaterThanToday() {
        Supplier<Forwardroll> onDay9 = () -> Desks.onDay(9);
        Refused.call("4: the first day, over", STATE, onDay9, desk -> desk.toggleHoliday(1));
        Refused.call("4: yesterday", STATE, onDay9, desk -> desk.toggleHoliday(8));
        Refused.call("4: today", STATE, onDay9, desk -> desk.toggleHoliday(9));
        Check.holds("4: tomorrow", Desks.onDay(9).toggleHoliday(10));
        Refused.call("4: yesterday's holiday", STATE, RefusalTest::deskBehindAHoliday, desk -> desk.toggleHoliday(2));
        Refused.call("4: the latest day as today", STATE, () -> Desks.onDay(1000), desk -> desk.toggleHoliday(1000));
        Check.holds("4: the latest day as tomorrow", Desks.onDay(999).toggleHoliday(1000));
    }

    private static Forwardroll deskBehindAHoliday() {
        Forwardroll desk = new Forwardroll();
        desk.toggleHoliday(2);
        desk.pass(3);
        return desk;
    }

    private static Forwardroll deskWithDeals(int count) {
        Forwardroll desk = new Forwardroll();
        for (int i = 0; i < count; i++) {
            desk.deal(0, 0, true, 10, 0, 3);
        }
        return desk;
    }

    private static void moreThanTwentyDeals() {
        Check.equal("7: the 20th deal", deskWithDeals(19).deal(0, 0, true, 1, 0, 0), 19);
        Refused.call("7: the 21st deal", STATE, () -> deskWithDeals(20), desk -> desk.deal(0, 0, true, 1, 0, 0));
        Refused.call("7: the 21st deal, another customer", STATE, () -> deskWithDeals(20),
                desk -> desk.deal(4, 3, false, 1, 0, 0));
    }

    private static Forwardroll deskWithTwentyDealsThatAreOver() {
        Forwardroll desk = deskWithDeals(20);
        desk.draw(0, 10);
        desk.closeOut(1);
        desk.pass(4);
        return desk;
    }

    private static void twentyDealsThatAreOver() {
        Refused.call("7: deals that are over count, too", STATE, RefusalTest::deskWithTwentyDealsThatAreOver,
                desk -> desk.deal(0, 0, true, 1, 0, 0));
    }

    private static Forwardroll deskWithLimit(int limit) {
        Forwardroll desk = new Forwardroll();
        desk.setPoints(1, 50);
        desk.setLimit(2, limit);
        return desk;
    }

    /** The forward rate for day 4 is 10200, and 9180 if it falls by a tenth. */
    private static void buyersExposureAboveTheLimit() {
        Check.answers("7: a buyer at the limit", () -> deskWithLimit(1020).deal(2, 1, true, 10000, 0, 4), 0);
        Refused.call("7: a buyer above the limit", STATE, () -> deskWithLimit(1019),
                desk -> desk.deal(2, 1, true, 10000, 0, 4));
        Check.answers("7: another customer's limit", () -> deskWithLimit(0).deal(3, 1, true, 10000, 0, 4), 0);
    }

    private static void sellersExposureAboveTheLimit() {
        Check.answers("7: a seller at the limit", () -> deskWithLimit(1020).deal(2, 1, false, 10000, 0, 4), 0);
        Refused.call("7: a seller above the limit", STATE, () -> deskWithLimit(1019),
                desk -> desk.deal(2, 1, false, 10000, 0, 4));
    }

    /** Each of the deals has an exposure of 100000. */
    private static Forwardroll deskWithGreatDeals(int count) {
        Forwardroll desk = new Forwardroll();
        for (int i = 0; i < count; i++) {
            desk.deal(2, 1, false, 1000000, 0, 0);
        }
        return desk;
    }

    private static void exposureAboveTheFirstLimit() {
        Check.answers("7: a new desk's limit, reached", () -> deskWithGreatDeals(9).deal(2, 0, false, 1000000, 0, 0), 9);
        Refused.call("7: a new desk's limit, one above", STATE, () -> deskWithGreatDeals(10),
                desk -> desk.deal(2, 0, false, 10, 0, 0));
    }

    private static void limitOfZero() {
        Check.answers("7: no limit, no exposure", () -> deskWithLimit(0).deal(2, 0, false, 9, 0, 0), 0);
        Refused.call("7: no limit, an exposure of 1", STATE, () -> deskWithLimit(0),
                desk -> desk.deal(2, 0, false, 10, 0, 0));
    }

    /** By the deals made before, customer 2 loses 1000 if rates fall, or rise, and the limit is 1500. */
    private static Forwardroll deskWithExposureOf1000(boolean buys) {
        Forwardroll desk = deskWithLimit(1500);
        desk.deal(2, 0, buys, 10000, 0, 4);
        desk.deal(3, 0, buys, 10000, 0, 4);
        return desk;
    }

    private static void exposureOfAllDealsAboveTheLimit() {
        for (boolean buys : new boolean[] {true, false}) {
            Supplier<Forwardroll> made = () -> deskWithExposureOf1000(buys);
            String how = buys ? ", bought" : ", sold";
            Check.answers("7: 500 more" + how, () -> made.get().deal(2, 2, buys, 5000, 0, 0), 2);
            Refused.call("7: 501 more" + how, STATE, made, desk -> desk.deal(2, 2, buys, 5010, 0, 0));
            Check.answers("7: 2500 against it" + how, () -> made.get().deal(2, 2, !buys, 25000, 0, 0), 2);
            Refused.call("7: 2501 against it" + how, STATE, made, desk -> desk.deal(2, 2, !buys, 25010, 0, 0));
        }
    }

    /** Customer 0 has bought at 10000 what is at 5000 now. One unit of currency 2 has no exposure. */
    private static Forwardroll deskAboveTheLimit() {
        Forwardroll desk = new Forwardroll();
        desk.setLimit(0, 1000);
        desk.deal(0, 1, true, 10000, 0, 5);
        desk.setRate(1, 5000);
        desk.setRate(2, 1);
        return desk;
    }

    private static void exposureAboveTheLimitAlready() {
        Check.equal("15: far above the limit", deskAboveTheLimit().exposure(0), 5500);
        Refused.call("7: even a deal without exposure", STATE, RefusalTest::deskAboveTheLimit,
                desk -> desk.deal(0, 2, true, 1, 0, 0));
        Refused.call("7: even a deal that lowers it", STATE, RefusalTest::deskAboveTheLimit,
                desk -> desk.deal(0, 1, false, 10000, 0, 5));
        Check.answers("7: another customer", () -> deskAboveTheLimit().deal(1, 1, false, 10000, 0, 5), 1);
    }

    private static Forwardroll deskWithSomeLeft(int left) {
        Forwardroll desk = new Forwardroll();
        desk.deal(0, 0, true, 100, 0, 3);
        desk.draw(0, 100 - left);
        return desk;
    }

    private static void drawnMoreThanIsLeft() {
        Check.answers("8: all that is left", () -> deskWithSomeLeft(7).draw(0, 7), 10000);
        Refused.call("8: one more than is left", ARGUMENT, () -> deskWithSomeLeft(7), desk -> desk.draw(0, 8));
        Refused.call("8: as much as was left at first", ARGUMENT, () -> deskWithSomeLeft(7), desk -> desk.draw(0, 100));
        Check.answers("8: the last unit", () -> deskWithSomeLeft(1).draw(0, 1), 10000);
    }

    private static void nothingIsPossible(String what, Supplier<Forwardroll> made) {
        Refused.call("8: " + what, ARGUMENT, made, desk -> desk.draw(0, 1));
        Refused.call("9: " + what + ", carried", STATE, made, desk -> desk.roll(0, 1, false));
        Refused.call("9: " + what + ", settled", STATE, made, desk -> desk.roll(0, 1, true));
        Refused.call("10: " + what, STATE, made, desk -> desk.closeOut(0));
        Check.equal("11: " + what, made.get().left(0), 0);
        Check.equal("12: " + what, made.get().rate(0), 10000);
        Check.equal("13: " + what, made.get().window(0), 3);
        Check.equal("14: " + what, made.get().gain(0), 0);
        Check.equal("15: " + what, made.get().exposure(0), 0);
    }

    private static void nothingLeftAfterDrawing() {
        nothingIsPossible("all drawn", () -> deskWithSomeLeft(0));
        Check.answers("9: one unit left", () -> deskWithSomeLeft(1).roll(0, 1, false), 10000);
        Check.answers("10: one unit left", () -> deskWithSomeLeft(1).closeOut(0), 0);
    }

    private static void nothingLeftAfterClosingOut() {
        nothingIsPossible("closed out", () -> {
            Forwardroll desk = deskWithSomeLeft(7);
            desk.closeOut(0);
            return desk;
        });
    }

    private static void nothingLeftAfterTheLastDay() {
        nothingIsPossible("over", () -> {
            Forwardroll desk = deskWithSomeLeft(7);
            desk.pass(4);
            return desk;
        });
    }

    private static Forwardroll deskWithLastDay(int last) {
        Forwardroll desk = new Forwardroll();
        desk.deal(0, 0, true, 100, 0, last);
        return desk;
    }

    private static void rolledTooFarAhead() {
        for (boolean isSettled : new boolean[] {false, true}) {
            String how = isSettled ? ", settled" : ", carried";
            Check.answers("9: to 400 days" + how, () -> deskWithLastDay(399).roll(0, 1, isSettled), 10000);
            Check.answers("9: by 100 to 400 days" + how, () -> deskWithLastDay(300).roll(0, 100, isSettled), 10000);
            Refused.call("9: to 401 days" + how, STATE, () -> deskWithLastDay(400), desk -> desk.roll(0, 1, isSettled));
            Refused.call("9: by 100 to 401 days" + how, STATE, () -> deskWithLastDay(301),
                    desk -> desk.roll(0, 100, isSettled));
        }
    }

    private static Forwardroll deskWithLastDay400OnDay9() {
        Forwardroll desk = deskWithLastDay(400);
        desk.pass(9);
        return desk;
    }

    private static void rolledTooFarAheadOnALaterDay() {
        Supplier<Forwardroll> onDay9 = RefusalTest::deskWithLastDay400OnDay9;
        Check.answers("9: to day 409 on day 9, carried", () -> onDay9.get().roll(0, 9, false), 10000);
        Check.answers("9: to day 409 on day 9, settled", () -> onDay9.get().roll(0, 9, true), 10000);
        Refused.call("9: to day 410 on day 9, carried", STATE, onDay9, desk -> desk.roll(0, 10, false));
        Refused.call("9: to day 410 on day 9, settled", STATE, onDay9, desk -> desk.roll(0, 10, true));
    }

    private static void passedBehindDay1000() {
        Check.answers("19: from day 900 to 1000", () -> Desks.onDay(900).pass(100), 0);
        Refused.call("19: from day 901 to 1001", STATE, () -> Desks.onDay(901), desk -> desk.pass(100));
        Check.answers("19: from day 999 to 1000", () -> Desks.onDay(999).pass(1), 0);
        Refused.call("19: from day 999 to 1001", STATE, () -> Desks.onDay(999), desk -> desk.pass(2));
        Refused.call("19: from day 1000 to 1001", STATE, () -> Desks.onDay(1000), desk -> desk.pass(1));
    }

    /** On day 995, with something due on day 996, and deals that end on days 995, 997 and 1000. */
    private static Forwardroll deskWithDealsThatEnd() {
        Forwardroll desk = Desks.onDay(995);
        desk.deal(0, 0, true, 10000, 0, 0);
        desk.deal(1, 0, false, 10000, 0, 2);
        desk.deal(2, 0, true, 10000, 0, 5);
        desk.draw(2, 3000);
        desk.setRate(0, 12000);
        return desk;
    }

    private static void passedBehindDay1000WithDealsThatWouldEnd() {
        Refused.call("19: no deal ends by a refused call", STATE, RefusalTest::deskWithDealsThatEnd,
                desk -> desk.pass(6));
        Check.equal("19: to day 1000 two end", deskWithDealsThatEnd().pass(5), 2);
        Forwardroll latest = deskWithDealsThatEnd();
        latest.pass(5);
        Check.refused("19: the day of the last deal can't pass", STATE, () -> latest.pass(1));
        Check.equal("19: it does not end", latest.left(2), 7000);
    }

    private static void indexBeforeArgument() {
        Supplier<Forwardroll> made = () -> deskWithDeals(2);
        for (int none : new int[] {-1, 5, Integer.MIN_VALUE, Integer.MAX_VALUE}) {
            Refused.call("2: both", INDEX, made, desk -> desk.setRate(none, 0));
            Refused.call("3: both", INDEX, made, desk -> desk.setPoints(none, 51));
            Refused.call("5: both", INDEX, made, desk -> desk.setLimit(none, -1));
            Refused.call("6: both", INDEX, made, desk -> desk.forward(none, 401));
            Refused.call("7: customer and amount", INDEX, made, desk -> desk.deal(none, 0, true, 0, 0, 0));
            Refused.call("7: customer and first", INDEX, made, desk -> desk.deal(none, 0, true, 1, -1, 0));
            Refused.call("7: customer and last", INDEX, made, desk -> desk.deal(none, 0, true, 1, 1, 0));
            Refused.call("7: currency and amount", INDEX, made, desk -> desk.deal(0, none, true, 1000001, 0, 0));
            Refused.call("7: currency and first", INDEX, made, desk -> desk.deal(0, none, true, 1, 401, 401));
            Refused.call("7: currency and last", INDEX, made, desk -> desk.deal(0, none, true, 1, 0, 401));
            Refused.call("8: both", INDEX, made, desk -> desk.draw(none, 0));
            Refused.call("9: both", INDEX, made, desk -> desk.roll(none, 101, true));
            Refused.call("17: customer and what", INDEX, made, desk -> desk.due(none, 5, 1));
            Refused.call("17: customer and days", INDEX, made, desk -> desk.due(none, 0, 21));
            Refused.call("18: both", INDEX, made, desk -> desk.balance(none, -1));
        }
    }

    private static void indexBeforeArgumentAndState() {
        Supplier<Forwardroll> full = () -> deskWithDeals(20);
        Refused.call("7: customer, amount and 20 deals", INDEX, full, desk -> desk.deal(5, 0, true, 0, 0, 0));
        Refused.call("7: currency, last and 20 deals", INDEX, full, desk -> desk.deal(0, 4, true, 1, 0, 401));
    }

    private static void indexBeforeState() {
        Supplier<Forwardroll> full = () -> deskWithDeals(20);
        Refused.call("7: customer and 20 deals", INDEX, full, desk -> desk.deal(-1, 0, true, 1, 0, 0));
        Refused.call("7: currency and 20 deals", INDEX, full, desk -> desk.deal(0, -1, true, 1, 0, 0));
        Refused.call("7: currency and the limit", INDEX, RefusalTest::deskAboveTheLimit,
                desk -> desk.deal(0, 4, true, 1, 0, 0));
    }

    private static void argumentBeforeState() {
        Refused.call("4: day 0, over", ARGUMENT, () -> Desks.onDay(9), desk -> desk.toggleHoliday(0));
        Refused.call("4: a day before all", ARGUMENT, () -> Desks.onDay(1000), desk -> desk.toggleHoliday(-1));
        Refused.call("4: day 1001 on day 1000", ARGUMENT, () -> Desks.onDay(1000), desk -> desk.toggleHoliday(1001));
        for (Supplier<Forwardroll> made : dealsAreNotPossible()) {
            Refused.call("7: amount and state", ARGUMENT, made, desk -> desk.deal(0, 0, true, 0, 0, 0));
            Refused.call("7: amount and state", ARGUMENT, made, desk -> desk.deal(0, 0, true, 1000001, 0, 0));
            Refused.call("7: first and state", ARGUMENT, made, desk -> desk.deal(0, 0, true, 1, -1, 0));
            Refused.call("7: last and state", ARGUMENT, made, desk -> desk.deal(0, 0, true, 1, 0, 401));
            Refused.call("7: last before first and state", ARGUMENT, made, desk -> desk.deal(0, 0, true, 1, 1, 0));
        }
        Refused.call("8: 0 of nothing left", ARGUMENT, () -> deskWithSomeLeft(0), desk -> desk.draw(0, 0));
        Refused.call("9: 0 days, nothing left", ARGUMENT, () -> deskWithSomeLeft(0), desk -> desk.roll(0, 0, true));
        Refused.call("9: 101 days, nothing left", ARGUMENT, () -> deskWithSomeLeft(0), desk -> desk.roll(0, 101, false));
        Refused.call("9: 101 days, too far ahead", ARGUMENT, () -> deskWithLastDay(400), desk -> desk.roll(0, 101, true));
        Refused.call("19: 101 days, to day 1001", ARGUMENT, () -> Desks.onDay(900), desk -> desk.pass(101));
        Refused.call("19: 0 days on day 1000", ARGUMENT, () -> Desks.onDay(1000), desk -> desk.pass(0));
        Refused.call("19: far too many days", ARGUMENT, () -> Desks.onDay(9), desk -> desk.pass(Integer.MAX_VALUE));
    }

    private static List<Supplier<Forwardroll>> dealsAreNotPossible() {
        return List.of(() -> deskWithDeals(20), RefusalTest::deskAboveTheLimit);
    }
}
