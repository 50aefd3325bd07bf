/**
 * The boundary cases of "Terms" that are about a deal's window and what is left of it: the first day
 * reached or not, the last day over or not, windows as short and as far as can be, and numbers of deals.
 */
public final class WindowEdgeTest {
    private static final Class<IllegalArgumentException> ARGUMENT = IllegalArgumentException.class;
    private static final int HOME = 4;

    public static void main(String[] args) {
        dealsAreNumberedFromZero();
        refusedDealsTakeNoNumber();
        rateIsForTheLastDay();
        firstDayNotReached();
        firstDayReached();
        earlyByAsMuchAsCanBe();
        firstDayReachedAfterARoll();
        lastDayNotOver();
        lastDayOver();
        lastDayOverAfterARoll();
        windowOfOneDay();
        windowOfTodayOnALaterDay();
        windowAsFarAsCanBe();
        windowOnTheLatestToday();
        rolledOnTheLastDay();
        rolledTwice();
        rolledWithOneUnitLeft();
        carriedAndSettledRatesDiffer();
        limitIsAskedByDealsAlone();
        Check.end("WindowEdgeTest");
    }

    /** Customer 0 buys and customer 1 sells 1000, at 12100, from day 2 to day 10. */
    private static Forwardroll deskOnDay(int day) {
        Forwardroll desk = new Forwardroll();
        desk.setRate(1, 12000);
        desk.setPoints(1, 10);
        desk.deal(0, 1, true, 1000, 2, 10);
        desk.deal(1, 1, false, 1000, 2, 10);
        if (day > 0) {
            desk.pass(day);
        }
        return desk;
    }

    private static void dealsAreNumberedFromZero() {
        Forwardroll desk = new Forwardroll();
        for (int i = 0; i < 20; i++) {
            Check.equal("7: number", desk.deal(i % 5, i % 4, i % 2 == 0, 1 + i, 0, i), i);
        }
        for (int i = 0; i < 20; i++) {
            Check.equal("11: left of deal " + i, desk.left(i), 1 + i);
            Check.equal("13: window of deal " + i, desk.window(i), i);
        }
    }

    private static void refusedDealsTakeNoNumber() {
        Forwardroll desk = new Forwardroll();
        desk.setLimit(1, 0);
        Check.equal("7: first", desk.deal(0, 0, true, 10, 0, 0), 0);
        Check.refused("7: no customer", IndexOutOfBoundsException.class, () -> desk.deal(5, 0, true, 10, 0, 0));
        Check.refused("7: no amount", ARGUMENT, () -> desk.deal(0, 0, true, 0, 0, 0));
        Check.refused("7: no room", IllegalStateException.class, () -> desk.deal(1, 0, true, 10, 0, 0));
        Check.equal("7: second", desk.deal(0, 0, true, 10, 0, 0), 1);
    }

    private static void rateIsForTheLastDay() {
        Forwardroll desk = new Forwardroll();
        desk.setPoints(1, 10);
        desk.deal(0, 1, true, 10, 0, 1);
        desk.deal(0, 1, true, 10, 0, 400);
        desk.deal(0, 1, true, 10, 400, 400);
        desk.deal(0, 1, true, 10, 0, 0);
        Check.equal("12: a day ahead", desk.rate(0), 10010);
        Check.equal("12: from today to 400 days ahead", desk.rate(1), 14000);
        Check.equal("12: 400 days ahead", desk.rate(2), 14000);
        Check.equal("12: today", desk.rate(3), 10000);
    }

    private static void firstDayNotReached() {
        Check.equal("8: two days before the first day", deskOnDay(0).draw(0, 1000), 12080);
        Forwardroll desk = deskOnDay(1);
        Check.equal("8: the day before the first day", desk.draw(0, 1000), 12090);
        Check.equal("8: a seller, the day before", desk.draw(1, 1000), 12090);
        Check.equal("8: owed at the early rate", desk.due(0, HOME, 1), -1209);
        Check.equal("8: due at the early rate", desk.due(1, HOME, 1), 1209);
    }

    private static void firstDayReached() {
        Forwardroll desk = deskOnDay(2);
        Check.equal("8: on the first day", desk.draw(0, 1000), 12100);
        Check.equal("8: a seller, on the first day", desk.draw(1, 1000), 12100);
        Check.equal("8: owed at the rate of the deal", desk.due(0, HOME, 1), -1210);
        Check.equal("8: due at the rate of the deal", desk.due(1, HOME, 1), 1210);
        Check.equal("8: the day after the first day", deskOnDay(3).draw(0, 1000), 12100);
        Forwardroll later = deskOnDay(2);
        later.setPoints(1, 50);
        Check.equal("8: whatever the points are", later.draw(0, 1), 12100);
    }

    private static void earlyByAsMuchAsCanBe() {
        Forwardroll desk = new Forwardroll();
        desk.setPoints(1, 20);
        desk.deal(0, 1, true, 10, 400, 400);
        Check.equal("8: 400 days early", desk.draw(0, 1), 10000);
        desk.setPoints(1, -20);
        Check.equal("8: 400 days early, points below 0", desk.draw(0, 1), 26000);
    }

    /** After the roll the first day is day 10, the old last day. */
    private static void firstDayReachedAfterARoll() {
        Forwardroll desk = deskOnDay(9);
        Check.equal("8: within the window", desk.draw(0, 1), 12100);
        Check.equal("9: carried", desk.roll(0, 5, false), 12150);
        Check.equal("13: from the old last day", desk.window(0), 100015);
        Check.equal("8: now a day early", desk.draw(0, 1), 12140);
        desk.pass(1);
        Check.equal("8: on the new first day", desk.draw(0, 1), 12150);
    }

    private static void lastDayNotOver() {
        Forwardroll desk = deskOnDay(10);
        Check.equal("8: on the last day", desk.draw(0, 400), 12100);
        Check.equal("8: a seller, on the last day", desk.draw(1, 1000), 12100);
        Check.equal("8: due on the settlement day", desk.due(0, 1, 1), 400);
        Check.equal("11: the rest is still left", desk.left(0), 600);
    }

    private static void lastDayOver() {
        Forwardroll desk = deskOnDay(11);
        Check.equal("11: nothing is left", desk.left(0), 0);
        Check.refused("8: the day after the last day", ARGUMENT, () -> desk.draw(0, 1));
        Check.refused("8: all of it", ARGUMENT, () -> desk.draw(1, 1000));
        Check.equal("8: no foreign money is due", desk.due(0, 1, 1) + desk.due(0, 1, 2) + desk.balance(0, 1), 0);
    }

    private static void lastDayOverAfterARoll() {
        Forwardroll desk = deskOnDay(10);
        desk.roll(0, 1, false);
        Check.equal("19: the old last day, one deal is over", desk.pass(1), 1);
        Check.equal("8: on the new last day", desk.draw(0, 1), 12110);
        Check.equal("19: the new last day", desk.pass(1), 1);
        Check.refused("8: the new last day is over", ARGUMENT, () -> desk.draw(0, 1));
    }

    private static void windowOfOneDay() {
        Forwardroll desk = new Forwardroll();
        desk.setPoints(1, 10);
        desk.deal(0, 1, true, 10, 1, 1);
        Check.equal("13: first and last day are one", desk.window(0), 10001);
        Check.equal("8: the day before", desk.draw(0, 1), 10000);
        desk.pass(1);
        Check.equal("8: on the day", desk.draw(0, 1), 10010);
        Check.equal("19: the day passes", desk.pass(1), 1);
        Check.refused("8: the day after", ARGUMENT, () -> desk.draw(0, 1));
    }

    private static void windowOfTodayOnALaterDay() {
        Forwardroll desk = new Forwardroll();
        desk.pass(8);
        desk.deal(0, 1, true, 10, 0, 0);
        Check.equal("13: today alone", desk.window(0), 80008);
        Check.equal("8: drawn at once", desk.draw(0, 4), 10000);
        Check.equal("19: over with today", desk.pass(1), 1);
        Check.equal("11: nothing left", desk.left(0), 0);
    }

    private static void windowAsFarAsCanBe() {
        Forwardroll desk = new Forwardroll();
        desk.deal(0, 1, true, 10, 0, 0);
        desk.deal(0, 1, true, 10, 0, 400);
        desk.deal(0, 1, true, 10, 400, 400);
        Check.equal("13: day 0 alone", desk.window(0), 0);
        Check.equal("13: from day 0 to day 400", desk.window(1), 400);
        Check.equal("13: day 400 alone", desk.window(2), 4000400);
        for (int i = 0; i < 4; i++) {
            desk.pass(100);
        }
        Check.equal("8: on day 400", desk.draw(1, 10), 10000);
        Check.equal("11: still all left", desk.left(2), 10);
        Check.equal("19: day 400 passes", desk.pass(1), 1);
        Check.equal("11: nothing left", desk.left(2), 0);
    }

    private static void windowOnTheLatestToday() {
        Forwardroll desk = new Forwardroll();
        for (int i = 0; i < 10; i++) {
            desk.pass(100);
        }
        desk.deal(0, 1, true, 10, 0, 400);
        desk.deal(0, 1, true, 10, 400, 400);
        desk.deal(0, 1, true, 10, 0, 0);
        Check.equal("13: from day 1000 to day 1400", desk.window(0), 10001400);
        Check.equal("13: day 1400 alone", desk.window(1), 14001400);
        Check.equal("13: day 1000 alone", desk.window(2), 10001000);
        desk.roll(2, 100, false);
        Check.equal("13: rolled on day 1000", desk.window(2), 10001100);
    }

    private static void rolledOnTheLastDay() {
        Forwardroll desk = deskOnDay(10);
        Check.equal("9: carried on the last day", desk.roll(0, 1, false), 12110);
        Check.equal("9: settled on the last day", desk.roll(1, 1, true), 12010);
        Check.equal("9: the gain at the rate of today", desk.due(1, HOME, 1), 10);
        Check.equal("19: neither is over", desk.pass(1), 0);
        Check.equal("19: both are over", desk.pass(1), 2);
    }

    private static void rolledTwice() {
        Forwardroll desk = deskOnDay(0);
        desk.roll(0, 1, false);
        Check.equal("13: from the old last day", desk.window(0), 100011);
        desk.roll(0, 100, false);
        Check.equal("13: from the last day between", desk.window(0), 110111);
        Check.equal("12: both times carried", desk.rate(0), 13110);
    }

    private static void rolledWithOneUnitLeft() {
        Forwardroll desk = deskOnDay(0);
        desk.draw(0, 999);
        desk.roll(0, 1, true);
        Check.equal("11: one unit left", desk.left(0), 1);
        Check.equal("9: the last unit can be drawn", desk.draw(0, 1), 12010);
    }

    private static void carriedAndSettledRatesDiffer() {
        Forwardroll desk = deskOnDay(0);
        desk.setRate(1, 20000);
        Check.equal("9: carried, from the rate of the deal", desk.roll(0, 100, false), 13100);
        Check.equal("9: carried, nothing is due", desk.due(0, HOME, 1), 0);
        Check.equal("9: settled, the forward rate for day 110", desk.roll(1, 100, true), 21100);
        Check.equal("9: settled, the loss up to 20100 is owed", desk.due(1, HOME, 1), -800);
        Check.equal("14: settled, no gain remains", desk.gain(1), 0);
    }

    private static void limitIsAskedByDealsAlone() {
        Forwardroll desk = deskOnDay(0);
        desk.setLimit(0, 0);
        desk.setRate(1, 6000);
        Check.equal("15: above the limit", desk.exposure(0), 661);
        Check.equal("9: rolled", desk.roll(0, 100, false), 13100);
        Check.equal("8: drawn", desk.draw(0, 1), 13000);
        Check.equal("10: closed out", desk.closeOut(0), 709 - 1308);
    }
}
