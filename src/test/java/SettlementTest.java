/** Promises 16 to 20: the settlement day, what is due, balances, and passing days. */
public final class SettlementTest {
    private static final int HOME = 4;

    public static void main(String[] args) {
        settlementDayBehindManyHolidays();
        dueIsNet();
        balanceSumsWhatIsSettled();
        balancesAreKeptApart();
        passClosesOut();
        today();
        Check.end("SettlementTest");
    }

    private static void settlementDayBehindManyHolidays() {
        Forwardroll desk = new Forwardroll();
        for (int day = 1; day <= 400; day++) {
            desk.toggleHoliday(day);
        }
        Check.equal("16: day 401 is day 2 of its week", desk.settlementDay(), 401);
        desk.deal(0, 0, true, 5, 0, 0);
        desk.draw(0, 5);
        for (int i = 0; i < 4; i++) {
            Check.equal("16: not settled yet", desk.balance(0, 0), 0);
            desk.pass(100);
        }
        Check.equal("16: due on day 401", desk.due(0, 0, 1), 5);
        desk.pass(1);
        Check.equal("16: settled on day 401", desk.balance(0, 0), 5);
    }

    private static void dueIsNet() {
        Forwardroll desk = new Forwardroll();
        desk.deal(0, 2, true, 100, 0, 5);
        desk.deal(0, 2, false, 100, 0, 5);
        desk.deal(1, 2, false, 100, 0, 5);
        desk.draw(0, 70);
        desk.draw(1, 90);
        desk.draw(2, 10);
        Check.equal("17: net of the currency", desk.due(0, 2, 1), -20);
        Check.equal("17: net of home money", desk.due(0, HOME, 1), 20);
        Check.equal("17: another currency", desk.due(0, 3, 1), 0);
        Check.equal("17: another customer", desk.due(1, 2, 1), -10);
        Check.equal("17: another day", desk.due(0, 2, 2), 0);
        Check.equal("18: nothing yet", desk.balance(0, 2), 0);
    }

    private static void balanceSumsWhatIsSettled() {
        Forwardroll desk = new Forwardroll();
        desk.deal(0, 1, true, 100, 0, 50);
        desk.draw(0, 10);
        Check.equal("18: not settled yet", desk.balance(0, 1), 0);
        desk.pass(1);
        Check.equal("18: settled", desk.balance(0, 1), 10);
        desk.draw(0, 20);
        Check.equal("18: the second not yet", desk.balance(0, 1), 10);
        desk.pass(1);
        Check.equal("18: both", desk.balance(0, 1), 30);
        Check.equal("18: home money", desk.balance(0, HOME), -30);
        desk.pass(30);
        Check.equal("18: settled once", desk.balance(0, 1), 30);
    }

    private static void balancesAreKeptApart() {
        Forwardroll desk = new Forwardroll();
        for (int customer = 0; customer < 5; customer++) {
            for (int currency = 0; currency < 4; currency++) {
                int deal = desk.deal(customer, currency, true, 1000, 0, 50);
                desk.draw(deal, 10 * customer + currency + 1);
            }
        }
        desk.pass(1);
        for (int customer = 0; customer < 5; customer++) {
            for (int currency = 0; currency < 4; currency++) {
                Check.equal("18: foreign", desk.balance(customer, currency), 10 * customer + currency + 1);
            }
            Check.equal("18: home", desk.balance(customer, HOME), -40 * customer - 10);
        }
    }

    private static void passClosesOut() {
        Forwardroll desk = new Forwardroll();
        desk.deal(0, 0, true, 1000, 0, 2);
        desk.deal(1, 0, false, 1000, 2, 2);
        desk.deal(2, 0, true, 1000, 0, 3);
        desk.deal(3, 0, true, 1000, 0, 2);
        desk.draw(3, 1000);
        Check.equal("19: no last day has passed", desk.pass(2), 0);
        desk.setRate(0, 12000);
        desk.setPoints(0, 50);
        Check.equal("19: two closed out, not what is drawn", desk.pass(1), 2);
        Check.equal("19: nothing is left", desk.left(0), 0);
        Check.equal("19: nothing is left", desk.left(1), 0);
        Check.equal("19: the later deal", desk.left(2), 1000);
        Check.equal("19: a buyer's gain is settled", desk.balance(0, HOME), 200);
        Check.equal("19: a seller's loss is settled", desk.balance(1, HOME), -200);
        Check.equal("19: no foreign money", desk.balance(0, 0), 0);
        Check.equal("19: no more of the drawn one", desk.balance(3, HOME), -1000);
    }

    private static void today() {
        Forwardroll desk = new Forwardroll();
        Check.equal("20: at first", desk.today(), 0);
        desk.pass(1);
        Check.equal("20: a day later", desk.today(), 1);
        desk.pass(100);
        Check.equal("20: a hundred days later", desk.today(), 101);
        Forwardroll other = new Forwardroll();
        Check.equal("20: another desk", other.today(), 0);
    }
}
