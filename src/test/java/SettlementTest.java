/** Promises 16 to 20: the settlement day, what is due, balances, and passing days. */
public final class SettlementTest {
    private static final Class<IllegalStateException> STATE = IllegalStateException.class;
    private static final int HOME = 4;

    public static void main(String[] args) {
        settlementDays();
        settlementDayBehindManyHolidays();
        settlementDayAtTheEnd();
        dueIsNet();
        dueEdges();
        balanceSumsWhatIsSettled();
        balancesAreKeptApart();
        passClosesOut();
        passClosesOutAheadOfTheNextDay();
        passClosesOutBeforeAWeekend();
        passOverManyDays();
        passEdges();
        today();
        Check.end("SettlementTest");
    }

    private static void settlementDays() {
        int[] due = {1, 2, 3, 4, 7, 7, 7, 8, 9, 10, 11, 14, 14, 14, 15};
        Forwardroll desk = new Forwardroll();
        for (int day = 0; day < due.length; day++) {
            Check.equal("16: on day " + day, desk.settlementDay(), due[day]);
            desk.pass(1);
        }
    }

    private static void settlementDayBehindManyHolidays() {
        Forwardroll desk = new Forwardroll();
        for (int day = 1; day <= 400; day++) {
            desk.toggleHoliday(day);
        }
        Check.equal("16: day 401 is day 2 of its week", desk.settlementDay(), 401);
        desk.deal(0, 0, true, 5, 0, 0);
        desk.draw(0, 5);
        for (int i = 0; i < 4; i++) {
            Check.equal("16: not settled yet", desk.balance(0, 0), 0);
            desk.pass(100);
        }
        Check.equal("16: due on day 401", desk.due(0, 0, 1), 5);
        desk.pass(1);
        Check.equal("16: settled on day 401", desk.balance(0, 0), 5);
    }

    private static void settlementDayAtTheEnd() {
        Forwardroll desk = new Forwardroll();
        for (int i = 0; i < 10; i++) {
            desk.pass(99);
        }
        for (int day = 991; day <= 1000; day++) {
            desk.toggleHoliday(day);
        }
        Check.equal("16: behind the last day", desk.settlementDay(), 1001);
        desk.deal(0, 0, true, 5, 0, 400);
        desk.draw(0, 2);
        desk.pass(10);
        Check.equal("16: on day 1000", desk.settlementDay(), 1001);
        desk.draw(0, 1);
        Check.equal("17: due on day 1001", desk.due(0, 0, 1), 3);
        Check.equal("17: due on day 1020", desk.due(0, 0, 20), 0);
        Check.equal("13: the latest window", desk.window(0), 9901390);
    }

    private static void dueIsNet() {
        Forwardroll desk = new Forwardroll();
        desk.deal(0, 2, true, 100, 0, 5);
        desk.deal(0, 2, false, 100, 0, 5);
        desk.deal(1, 2, false, 100, 0, 5);
        desk.draw(0, 70);
        desk.draw(1, 90);
        desk.draw(2, 10);
        Check.equal("17: net of the currency", desk.due(0, 2, 1), -20);
        Check.equal("17: net of home money", desk.due(0, HOME, 1), 20);
        Check.equal("17: another currency", desk.due(0, 3, 1), 0);
        Check.equal("17: another customer", desk.due(1, 2, 1), -10);
        Check.equal("17: another day", desk.due(0, 2, 2), 0);
        Check.equal("18: nothing yet", desk.balance(0, 2), 0);
    }

    private static void dueEdges() {
        Forwardroll desk = new Forwardroll();
        for (int day = 1; day <= 24; day++) {
            desk.toggleHoliday(day);
        }
        desk.deal(4, 3, true, 10, 0, 0);
        desk.draw(0, 10);
        Check.equal("17: on the 20th day nothing", desk.due(4, 3, 20), 0);
        desk.pass(5);
        Check.equal("17: on the 20th day", desk.due(4, 3, 20), 10);
        Check.equal("17: on the 20th day, home money", desk.due(4, HOME, 20), -10);
        desk.pass(19);
        Check.equal("17: on the next day", desk.due(4, 3, 1), 10);
        desk.pass(1);
        Check.equal("17: not on later days", desk.due(4, 3, 1), 0);
        Check.equal("18: settled", desk.balance(4, 3), 10);
    }

    private static void balanceSumsWhatIsSettled() {
        Forwardroll desk = new Forwardroll();
        desk.deal(0, 1, true, 100, 0, 50);
        desk.draw(0, 10);
        Check.equal("18: not settled yet", desk.balance(0, 1), 0);
        desk.pass(1);
        Check.equal("18: settled", desk.balance(0, 1), 10);
        desk.draw(0, 20);
        Check.equal("18: the second not yet", desk.balance(0, 1), 10);
        desk.pass(1);
        Check.equal("18: both", desk.balance(0, 1), 30);
        Check.equal("18: home money", desk.balance(0, HOME), -30);
        desk.pass(30);
        Check.equal("18: settled once", desk.balance(0, 1), 30);
    }

    private static void balancesAreKeptApart() {
        Forwardroll desk = new Forwardroll();
        for (int customer = 0; customer < 5; customer++) {
            for (int currency = 0; currency < 4; currency++) {
                int deal = desk.deal(customer, currency, true, 1000, 0, 50);
                desk.draw(deal, 10 * customer + currency + 1);
            }
        }
        desk.pass(1);
        for (int customer = 0; customer < 5; customer++) {
            for (int currency = 0; currency < 4; currency++) {
                Check.equal("18: foreign", desk.balance(customer, currency), 10 * customer + currency + 1);
            }
            Check.equal("18: home", desk.balance(customer, HOME), -40 * customer - 10);
        }
    }

    private static void passClosesOut() {
        Forwardroll desk = new Forwardroll();
        desk.deal(0, 0, true, 1000, 0, 2);
        desk.deal(1, 0, false, 1000, 2, 2);
        desk.deal(2, 0, true, 1000, 0, 3);
        desk.deal(3, 0, true, 1000, 0, 2);
        desk.draw(3, 1000);
        Check.equal("19: no last day has passed", desk.pass(2), 0);
        desk.setRate(0, 12000);
        desk.setPoints(0, 50);
        Check.equal("19: two closed out, not what is drawn", desk.pass(1), 2);
        Check.equal("19: nothing is left", desk.left(0), 0);
        Check.equal("19: nothing is left", desk.left(1), 0);
        Check.equal("19: the later deal", desk.left(2), 1000);
        Check.equal("19: a buyer's gain is settled", desk.balance(0, HOME), 200);
        Check.equal("19: a seller's loss is settled", desk.balance(1, HOME), -200);
        Check.equal("19: no foreign money", desk.balance(0, 0), 0);
        Check.equal("19: no more of the drawn one", desk.balance(3, HOME), -1000);
    }

    private static void passClosesOutAheadOfTheNextDay() {
        Forwardroll desk = new Forwardroll();
        desk.deal(0, 0, true, 10000, 0, 1);
        desk.setRate(0, 11000);
        desk.setPoints(0, 50);
        desk.toggleHoliday(2);
        Check.equal("19: closed out on day 1", desk.pass(2), 1);
        Check.equal("19: due on day 3, at the rate of day 1", desk.due(0, HOME, 1), 1000);
        Check.equal("19: not settled on day 2", desk.balance(0, HOME), 0);
        desk.pass(1);
        Check.equal("19: settled on day 3", desk.balance(0, HOME), 1000);
    }

    private static void passClosesOutBeforeAWeekend() {
        Forwardroll desk = new Forwardroll();
        desk.deal(0, 0, true, 10000, 0, 4);
        desk.deal(0, 0, true, 10000, 5, 6);
        desk.setRate(0, 10100);
        Check.equal("19: on day 4", desk.pass(5), 1);
        Check.equal("19: due on day 7", desk.due(0, HOME, 2), 100);
        Check.equal("19: on day 6, no business day", desk.pass(2), 1);
        Check.equal("19: both settled on day 7", desk.balance(0, HOME), 200);
    }

    private static void passOverManyDays() {
        Forwardroll desk = new Forwardroll();
        for (int i = 0; i < 20; i++) {
            desk.deal(0, 0, true, 10000, 0, 5 * i);
        }
        desk.setRate(0, 10001);
        Check.equal("19: all in one call", desk.pass(96), 20);
        Check.equal("19: today", desk.today(), 96);
        Check.equal("19: the last is due", desk.due(0, HOME, 2), 1);
        Check.equal("19: the others are settled", desk.balance(0, HOME), 19);
    }

    private static void passEdges() {
        Forwardroll desk = new Forwardroll();
        Check.equal("19: a day", desk.pass(1), 0);
        for (int i = 0; i < 9; i++) {
            desk.pass(100);
        }
        Check.refused("19: to day 1001", STATE, () -> desk.pass(100));
        Check.equal("19: to day 1000", desk.pass(99), 0);
        Check.equal("20: day 1000", desk.today(), 1000);
        Check.refused("19: behind day 1000", STATE, () -> desk.pass(1));
        Check.equal("20: still day 1000", desk.today(), 1000);
    }

    private static void today() {
        Forwardroll desk = new Forwardroll();
        Check.equal("20: at first", desk.today(), 0);
        desk.pass(1);
        Check.equal("20: a day later", desk.today(), 1);
        desk.pass(100);
        Check.equal("20: a hundred days later", desk.today(), 101);
        Forwardroll other = new Forwardroll();
        Check.equal("20: another desk", other.today(), 0);
    }
}
