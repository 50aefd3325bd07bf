/**
 * The boundary cases of "Terms" that are about days: business days, the settlement day over week ends
 * and holidays, what passes with a day and what does not, the latest today, and the 512th call.
 */
public final class CalendarEdgeTest {
    private static final Class<IllegalStateException> STATE = IllegalStateException.class;
    private static final int HOME = 4;
    private static final int LATEST_TODAY = 1000;
    private static final int CALLS = 512;

    public static void main(String[] args) {
        todayIsDayZeroAtFirst();
        weekEnds();
        everyDayUpToTheLatest();
        todayIsNoSettlementDay();
        holidayTomorrow();
        holidayBeforeAWeekEnd();
        holidayBehindAWeekEnd();
        holidayOnAWeekEnd();
        aWeekOfHolidays();
        holidayIsTodayNow();
        allDaysCanBeHolidays();
        holidaysUpToTheLatestDay();
        dueStaysOnADayThatBecomesAHoliday();
        dueOnTheFarthestDay();
        settledOnItsDayAndOnce();
        settledOnTheDayBehindAWeekEnd();
        lastDayIsToday();
        lastDayIsTomorrow();
        lastDayBeforeAWeekEnd();
        lastDayOnAWeekEnd();
        lastDayBeforeAHoliday();
        lastDayAheadOfTheNextDay();
        nothingLeftOnTheLastDay();
        manyLastDaysInOnePass();
        theLatestToday();
        dealOnTheLatestToday();
        settlementBehindTheLatestToday();
        the512thCall();
        Check.end("CalendarEdgeTest");
    }

    /** A deal of 100 units from today on, of which all is drawn now. */
    private static Forwardroll withDrawing(Forwardroll desk) {
        desk.draw(desk.deal(0, 0, true, 100, 0, 0), 100);
        return desk;
    }

    private static void todayIsDayZeroAtFirst() {
        Check.equal("20: a new desk", new Forwardroll().today(), 0);
        Check.equal("16: a new desk", new Forwardroll().settlementDay(), 1);
    }

    private static void weekEnds() {
        Check.equal("16: day 3, remainder 4 is a business day", Desks.onDay(3).settlementDay(), 4);
        Check.equal("16: day 4, remainders 5 and 6 are none", Desks.onDay(4).settlementDay(), 7);
        Check.equal("16: day 5", Desks.onDay(5).settlementDay(), 7);
        Check.equal("16: day 6, remainder 0 is one", Desks.onDay(6).settlementDay(), 7);
        Check.equal("16: day 7, remainder 1 is one", Desks.onDay(7).settlementDay(), 8);
    }

    private static void everyDayUpToTheLatest() {
        int[] ahead = {1, 1, 1, 1, 3, 2, 1};
        for (int start = 0; start < LATEST_TODAY; start += 200) {
            Forwardroll desk = Desks.onDay(start);
            for (int day = start; day < start + 200; day++) {
                Check.equal("16: on day " + day, desk.settlementDay(), day + ahead[day % 7]);
                desk.pass(1);
            }
        }
        Check.equal("16: on day 1000", Desks.onDay(LATEST_TODAY).settlementDay(), 1001);
    }

    private static void todayIsNoSettlementDay() {
        Forwardroll desk = withDrawing(new Forwardroll());
        Check.equal("8: not settled today", desk.balance(0, 0), 0);
        Check.equal("8: due tomorrow", desk.due(0, 0, 1), 100);
    }

    private static void holidayTomorrow() {
        Forwardroll desk = new Forwardroll();
        desk.toggleHoliday(1);
        Check.equal("16: over one holiday", desk.settlementDay(), 2);
        desk.toggleHoliday(2);
        Check.equal("16: over two holidays", desk.settlementDay(), 3);
        desk.toggleHoliday(1);
        Check.equal("16: the first one is ordinary again", desk.settlementDay(), 1);
    }

    private static void holidayBeforeAWeekEnd() {
        Forwardroll desk = Desks.onDay(3);
        desk.toggleHoliday(4);
        Check.equal("16: over a holiday and the week end", desk.settlementDay(), 7);
        Check.equal("17: due behind both", withDrawing(desk).due(0, 0, 4), 100);
    }

    private static void holidayBehindAWeekEnd() {
        Forwardroll desk = Desks.onDay(4);
        desk.toggleHoliday(7);
        Check.equal("16: over the week end and a holiday", desk.settlementDay(), 8);
        Check.equal("17: due behind both", withDrawing(desk).due(0, 0, 4), 100);
    }

    private static void holidayOnAWeekEnd() {
        Forwardroll desk = Desks.onDay(4);
        desk.toggleHoliday(5);
        desk.toggleHoliday(6);
        Check.equal("16: holidays on the week end", desk.settlementDay(), 7);
        desk.toggleHoliday(5);
        desk.toggleHoliday(6);
        Check.equal("16: ordinary days of a week end are no business days", desk.settlementDay(), 7);
    }

    private static void aWeekOfHolidays() {
        Forwardroll desk = Desks.onDay(4);
        for (int day = 7; day <= 11; day++) {
            desk.toggleHoliday(day);
        }
        Check.equal("16: over two week ends", desk.settlementDay(), 14);
        desk.toggleHoliday(9);
        Check.equal("16: an ordinary day in between", desk.settlementDay(), 9);
    }

    private static void holidayIsTodayNow() {
        Forwardroll desk = new Forwardroll();
        desk.toggleHoliday(2);
        desk.pass(2);
        Check.equal("16: today's holiday moves nothing", desk.settlementDay(), 3);
        Check.refused("4: it stays a holiday", STATE, () -> desk.toggleHoliday(2));
    }

    private static void allDaysCanBeHolidays() {
        for (int start = 1; start <= LATEST_TODAY; start += 250) {
            Forwardroll desk = new Forwardroll();
            for (int day = start; day < start + 250; day++) {
                Check.holds("1: no holiday on day " + day, desk.toggleHoliday(day));
            }
            for (int day = start; day < start + 250; day++) {
                Check.holds("4: an ordinary day again, day " + day, !desk.toggleHoliday(day));
            }
        }
    }

    private static void holidaysUpToTheLatestDay() {
        Forwardroll desk = Desks.onDay(600);
        for (int day = 601; day <= LATEST_TODAY; day++) {
            desk.toggleHoliday(day);
        }
        Check.equal("16: behind 400 holidays", desk.settlementDay(), 1001);
        withDrawing(desk);
        Desks.passTo(desk, LATEST_TODAY);
        Check.equal("18: never settled", desk.balance(0, 0), 0);
        Check.equal("17: due on day 1001", desk.due(0, 0, 1), 100);
    }

    private static void dueStaysOnADayThatBecomesAHoliday() {
        Forwardroll desk = withDrawing(new Forwardroll());
        desk.toggleHoliday(1);
        Check.equal("4: due on the holiday", desk.due(0, 0, 1), 100);
        Check.equal("4: not behind it", desk.due(0, 0, 2), 0);
        withDrawing(desk);
        Check.equal("4: the next one is due behind it", desk.due(0, 0, 2), 100);
        desk.pass(1);
        Check.equal("4: settled on the holiday", desk.balance(0, 0), 100);
        Forwardroll other = Desks.onDay(0);
        other.toggleHoliday(1);
        withDrawing(other);
        other.toggleHoliday(1);
        Check.equal("4: due behind a day that is ordinary again", other.due(0, 0, 2), 100);
        Check.equal("4: not on it", other.due(0, 0, 1), 0);
    }

    private static void dueOnTheFarthestDay() {
        Forwardroll desk = new Forwardroll();
        for (int day = 1; day <= 21; day++) {
            desk.toggleHoliday(day);
        }
        withDrawing(desk);
        Check.equal("17: on day 22 nothing of it is seen from day 0", desk.due(0, 0, 20), 0);
        desk.pass(2);
        Check.equal("17: 20 days ahead", desk.due(0, 0, 20), 100);
        Check.equal("17: 19 days ahead", desk.due(0, 0, 19), 0);
        desk.pass(19);
        Check.equal("17: a day ahead", desk.due(0, 0, 1), 100);
        Check.equal("17: two days ahead", desk.due(0, 0, 2), 0);
    }

    private static void settledOnItsDayAndOnce() {
        Forwardroll desk = new Forwardroll();
        desk.toggleHoliday(1);
        withDrawing(desk);
        desk.pass(1);
        Check.equal("18: the day before", desk.balance(0, 0), 0);
        desk.pass(1);
        Check.equal("18: on the day", desk.balance(0, 0), 100);
        Check.equal("18: home money on the day", desk.balance(0, HOME), -100);
        desk.pass(1);
        Check.equal("18: the day after", desk.balance(0, 0), 100);
        desk.pass(100);
        Check.equal("18: long after", desk.balance(0, 0), 100);
    }

    private static void settledOnTheDayBehindAWeekEnd() {
        Forwardroll desk = withDrawing(Desks.onDay(4));
        Check.equal("17: three days ahead", desk.due(0, 0, 3), 100);
        desk.pass(2);
        Check.equal("18: not on the week end", desk.balance(0, 0), 0);
        desk.pass(1);
        Check.equal("18: on day 7", desk.balance(0, 0), 100);
    }

    /** Customer 1 buys 10000 at 10000; the rate is 11000 and the points are 50 then. */
    private static Forwardroll deskWithLastDay(int today, int last) {
        Forwardroll desk = Desks.onDay(today);
        desk.deal(1, 0, true, 10000, 0, last);
        desk.setRate(0, 11000);
        desk.setPoints(0, 50);
        return desk;
    }

    private static void lastDayIsToday() {
        Forwardroll desk = deskWithLastDay(0, 0);
        Check.equal("19: the last day is today", desk.pass(1), 1);
        Check.equal("19: nothing left", desk.left(0), 0);
        Check.equal("19: the gain at the rate of that day, settled on the next", desk.balance(1, HOME), 1000);
        Check.equal("19: no foreign money", desk.balance(1, 0), 0);
        Check.equal("19: it is closed out once", desk.pass(1), 0);
    }

    private static void lastDayIsTomorrow() {
        Forwardroll desk = deskWithLastDay(0, 1);
        Check.equal("19: the last day is tomorrow", desk.pass(1), 0);
        Check.equal("19: all left", desk.left(0), 10000);
        Check.equal("19: nothing due", desk.due(1, HOME, 1), 0);
        Check.equal("19: now it is over", desk.pass(1), 1);
        Check.equal("19: settled", desk.balance(1, HOME), 1000);
    }

    private static void lastDayBeforeAWeekEnd() {
        Forwardroll desk = deskWithLastDay(4, 0);
        Check.equal("19: on day 4", desk.pass(1), 1);
        Check.equal("19: due on day 7", desk.due(1, HOME, 2), 1000);
        desk.pass(2);
        Check.equal("19: settled on day 7", desk.balance(1, HOME), 1000);
    }

    private static void lastDayOnAWeekEnd() {
        Forwardroll desk = deskWithLastDay(5, 1);
        Check.equal("19: day 5 is not the last", desk.pass(1), 0);
        Check.equal("19: day 6 is the last, and no business day", desk.pass(1), 1);
        Check.equal("19: settled on day 7", desk.balance(1, HOME), 1000);
    }

    private static void lastDayBeforeAHoliday() {
        Forwardroll desk = deskWithLastDay(0, 0);
        desk.toggleHoliday(1);
        Check.equal("19: on day 0", desk.pass(1), 1);
        Check.equal("19: not settled on the holiday", desk.balance(1, HOME), 0);
        Check.equal("19: due on day 2", desk.due(1, HOME, 1), 1000);
    }

    /** Were it closed out on day 2 only, it would be due on day 3, at a rate of another day. */
    private static void lastDayAheadOfTheNextDay() {
        Forwardroll desk = deskWithLastDay(0, 1);
        Check.equal("19: two days in one call", desk.pass(2), 1);
        Check.equal("19: settled on day 2 already", desk.balance(1, HOME), 1000);
        Check.equal("19: nothing due on day 3", desk.due(1, HOME, 1), 0);
    }

    private static void nothingLeftOnTheLastDay() {
        Forwardroll drawn = deskWithLastDay(0, 1);
        drawn.draw(0, 10000);
        Check.equal("19: all drawn", drawn.pass(2), 0);
        Forwardroll closed = deskWithLastDay(0, 1);
        closed.closeOut(0);
        Check.equal("19: closed out before", closed.pass(2), 0);
        Forwardroll some = deskWithLastDay(0, 1);
        some.draw(0, 9999);
        Check.equal("19: one unit left", some.pass(2), 1);
        Check.equal("19: one unit has no gain", some.balance(1, HOME), -9999);
    }

    private static void manyLastDaysInOnePass() {
        Forwardroll desk = new Forwardroll();
        for (int i = 0; i < 20; i++) {
            desk.deal(0, 0, true, 10000, 0, 5 * i + 5);
        }
        desk.setRate(0, 10001);
        Check.equal("19: up to day 100, its deal stays", desk.pass(100), 19);
        Check.equal("19: left of the one that ends on day 100", desk.left(19), 10000);
        Check.equal("19: one of them each is settled", desk.balance(0, HOME), 19);
        Check.equal("19: the last one", desk.pass(1), 1);
        Check.equal("20: day 101", desk.today(), 101);
    }

    private static void theLatestToday() {
        Forwardroll desk = Desks.onDay(900);
        Check.equal("19: to day 1000", desk.pass(100), 0);
        Check.equal("20: day 1000", desk.today(), LATEST_TODAY);
        Check.refused("19: no day more", STATE, () -> desk.pass(1));
        Check.refused("19: no hundred days more", STATE, () -> desk.pass(100));
        Check.equal("20: still day 1000", desk.today(), LATEST_TODAY);
    }

    private static void dealOnTheLatestToday() {
        Forwardroll desk = deskWithLastDay(LATEST_TODAY, 0);
        Check.equal("8: drawn", desk.draw(0, 1000), 10000);
        Check.equal("9: rolled", desk.roll(0, 100, true), 16000);
        Check.equal("14: no gain then", desk.gain(0), 0);
        Check.equal("10: closed out", desk.closeOut(0), 0);
        Check.equal("17: due on day 1001", desk.due(1, 0, 1), 1000);
        Check.equal("17: home money due on day 1001", desk.due(1, HOME, 1), 900 - 1000);
        Check.equal("17: nothing on day 1020", desk.due(1, HOME, 20), 0);
    }

    private static void settlementBehindTheLatestToday() {
        Forwardroll desk = withDrawing(Desks.onDay(993));
        Check.equal("16: day 998 is a business day", Desks.onDay(997).settlementDay(), 998);
        Desks.passTo(desk, 998);
        Check.equal("16: days 999 and 1000 are a week end", desk.settlementDay(), 1001);
        withDrawing(desk);
        Desks.passTo(desk, LATEST_TODAY);
        Check.equal("18: what was due on day 994", desk.balance(0, 0), 100);
        Check.equal("17: what is due on day 1001", desk.due(0, 0, 1), 100);
    }

    private static void the512thCall() {
        Forwardroll desk = new Forwardroll();
        desk.deal(0, 0, true, 1000000, 0, 5);
        for (int call = 2; call < CALLS; call++) {
            desk.draw(0, 1);
        }
        Check.equal("11: as the last call", desk.left(0), 1000000 - (CALLS - 2));
        Forwardroll other = new Forwardroll();
        for (int call = 1; call < CALLS; call++) {
            other.setPoints(0, call % 50);
        }
        Check.equal("3: as the last call", other.setPoints(0, 0), (CALLS - 1) % 50);
    }
}
