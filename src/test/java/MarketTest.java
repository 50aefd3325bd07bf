/** Promises 1 to 6: a new desk, rates, points, holidays, limits and forward rates. */
public final class MarketTest {
    public static void main(String[] args) {
        newDesk();
        setRate();
        setPoints();
        toggleHoliday();
        setLimit();
        forward();
        forwardCountsFromToday();
        Check.end("MarketTest");
    }

    private static void newDesk() {
        Forwardroll desk = new Forwardroll();
        Check.equal("1: today", desk.today(), 0);
        Check.equal("1: settlement day", desk.settlementDay(), 1);
        for (int currency = 0; currency < 4; currency++) {
            Check.equal("1: rate", desk.forward(currency, 0), 10000);
            Check.equal("1: rate, points 0", desk.forward(currency, 400), 10000);
            Check.equal("1: rate before", desk.setRate(currency, 1), 10000);
            Check.equal("1: points before", desk.setPoints(currency, 1), 0);
        }
        for (int customer = 0; customer < 5; customer++) {
            Check.equal("1: limit before", desk.setLimit(customer, 1), 1000000);
            Check.equal("1: exposure", desk.exposure(customer), 0);
            for (int what = 0; what < 5; what++) {
                Check.equal("1: balance", desk.balance(customer, what), 0);
                Check.equal("1: due", desk.due(customer, what, 1), 0);
            }
        }
        Check.refused("1: no deal", IndexOutOfBoundsException.class, () -> desk.left(0));
        Check.holds("1: no holiday", desk.toggleHoliday(1));
    }

    private static void setRate() {
        Forwardroll desk = new Forwardroll();
        Check.equal("2: first", desk.setRate(0, 12345), 10000);
        Check.equal("2: second", desk.setRate(0, 1), 12345);
        Check.equal("2: lowest", desk.forward(0, 0), 1);
        Check.equal("2: third", desk.setRate(0, 100000), 1);
        Check.equal("2: highest", desk.forward(0, 0), 100000);
        Check.equal("2: another currency", desk.forward(1, 0), 10000);
        Check.equal("2: last currency", desk.setRate(3, 7), 10000);
        Check.equal("2: last currency's rate", desk.forward(3, 0), 7);
    }

    private static void setPoints() {
        Forwardroll desk = new Forwardroll();
        Check.equal("3: first", desk.setPoints(2, 50), 0);
        Check.equal("3: highest", desk.forward(2, 3), 10150);
        Check.equal("3: second", desk.setPoints(2, -50), 50);
        Check.equal("3: lowest", desk.forward(2, 3), 9850);
        Check.equal("3: third", desk.setPoints(2, 0), -50);
        Check.equal("3: another currency", desk.forward(1, 3), 10000);
        Check.equal("3: rate stays", desk.forward(2, 3), 10000);
    }

    private static void toggleHoliday() {
        Forwardroll desk = new Forwardroll();
        Check.equal("4: on", desk.toggleHoliday(1) ? 1 : 0, 1);
        Check.equal("4: off", desk.toggleHoliday(1) ? 1 : 0, 0);
        Check.equal("4: on again", desk.toggleHoliday(1) ? 1 : 0, 1);
        Check.equal("4: a weekend day on", desk.toggleHoliday(5) ? 1 : 0, 1);
        Check.equal("4: a weekend day off", desk.toggleHoliday(5) ? 1 : 0, 0);
        Check.equal("4: another day", desk.toggleHoliday(2) ? 1 : 0, 1);
        Check.equal("4: no business days any more", desk.settlementDay(), 3);
        Check.equal("4: off at the end", desk.toggleHoliday(1) ? 1 : 0, 0);
        Check.equal("4: a business day again", desk.settlementDay(), 1);
    }

    private static void setLimit() {
        Forwardroll desk = new Forwardroll();
        Check.equal("5: first", desk.setLimit(4, 0), 1000000);
        Check.equal("5: lowest", desk.setLimit(4, 100000000), 0);
        Check.equal("5: highest", desk.setLimit(4, 5), 100000000);
        Check.equal("5: another customer", desk.setLimit(0, 5), 1000000);
        desk.deal(4, 0, true, 50, 0, 0);
        Check.equal("5: below the exposure", desk.setLimit(4, 0), 5);
        Check.equal("5: the deal stays", desk.left(0), 50);
    }

    private static void forward() {
        Forwardroll desk = new Forwardroll();
        desk.setRate(1, 100000);
        desk.setPoints(1, 50);
        Check.equal("6: today", desk.forward(1, 0), 100000);
        Check.equal("6: a day", desk.forward(1, 1), 100050);
        Check.equal("6: farthest", desk.forward(1, 400), 120000);
        desk.setPoints(1, -7);
        Check.equal("6: points below 0", desk.forward(1, 30), 99790);
        Check.equal("6: another currency", desk.forward(0, 30), 10000);
    }

    private static void forwardCountsFromToday() {
        Forwardroll desk = new Forwardroll();
        desk.setPoints(0, 10);
        desk.pass(20);
        Check.equal("6: the rate of today is no other", desk.forward(0, 0), 10000);
        Check.equal("6: days later than today", desk.forward(0, 3), 10030);
    }
}
