/** Promises 7 to 15: dealing, drawing, rolling, closing out, and what a deal and a customer stand at. */
public final class DealTest {
    private static final Class<IllegalArgumentException> ARGUMENT = IllegalArgumentException.class;
    private static final Class<IllegalStateException> STATE = IllegalStateException.class;
    private static final int HOME = 4;

    public static void main(String[] args) {
        dealNumbersRatesAndWindows();
        limitLooksAtAllDealsOfTheCustomer();
        drawWithinTheWindow();
        drawEarly();
        rollCarried();
        rollSettled();
        rollLoss();
        closeOut();
        leftRateAndWindowOfADeal();
        gain();
        exposureIsTheWorse();
        exposureAddsTheDealsOfACustomer();
        Check.end("DealTest");
    }

    private static Forwardroll deskWithPoints(int rate, int points) {
        Forwardroll desk = new Forwardroll();
        desk.setRate(1, rate);
        desk.setPoints(1, points);
        return desk;
    }

    private static void dealNumbersRatesAndWindows() {
        Forwardroll desk = deskWithPoints(12000, 10);
        desk.pass(3);
        Check.equal("7: first number", desk.deal(2, 1, true, 10, 4, 30), 0);
        Check.equal("7: second number", desk.deal(0, 0, false, 20, 0, 0), 1);
        Check.equal("7: rate for the last day", desk.rate(0), 12300);
        Check.equal("7: rate of another currency", desk.rate(1), 10000);
        Check.equal("7: window", desk.window(0), 70033);
        Check.equal("7: window of today", desk.window(1), 30003);
        Check.equal("7: left", desk.left(0), 10);
        Check.equal("7: nothing is due", desk.due(2, 1, 1), 0);
        desk.setRate(1, 9000);
        desk.setPoints(1, 0);
        Check.equal("7: the rate stays", desk.rate(0), 12300);
    }

    private static void limitLooksAtAllDealsOfTheCustomer() {
        Forwardroll desk = new Forwardroll();
        desk.setLimit(0, 1000);
        desk.deal(0, 1, true, 10000, 0, 5);
        Check.equal("7: the opposite deal", desk.deal(0, 1, false, 10000, 0, 5), 1);
        Check.equal("7: room again", desk.deal(0, 1, false, 10000, 0, 5), 2);
        Check.refused("7: no room any more", STATE, () -> desk.deal(0, 2, false, 10, 0, 5));
        Check.equal("7: less exposure with it", desk.deal(0, 2, true, 10000, 0, 5), 3);
        desk.setRate(1, 20000);
        Check.refused("7: still above the limit with it", STATE, () -> desk.deal(0, 1, true, 1000, 0, 5));
        desk.closeOut(2);
        Check.refused("7: one unit of loss too much", STATE, () -> desk.deal(0, 3, true, 1, 0, 5));
        Check.equal("7: after closing out", desk.deal(0, 3, false, 1, 0, 5), 4);
    }

    private static void drawWithinTheWindow() {
        Forwardroll desk = deskWithPoints(12000, 10);
        desk.deal(0, 1, true, 1000, 0, 10);
        desk.deal(1, 1, false, 1000, 2, 10);
        Check.equal("8: a buyer's rate", desk.draw(0, 333), 12100);
        Check.equal("8: a buyer is due", desk.due(0, 1, 1), 333);
        Check.equal("8: a buyer owes", desk.due(0, HOME, 1), -402);
        Check.equal("8: left", desk.left(0), 667);
        desk.setPoints(1, 50);
        desk.pass(2);
        Check.equal("8: on the first day", desk.draw(1, 333), 12100);
        Check.equal("8: a seller owes", desk.due(1, 1, 1), -333);
        Check.equal("8: a seller is due", desk.due(1, HOME, 1), 402);
        Check.equal("8: the rest", desk.draw(1, 667), 12100);
        Check.equal("8: both parts, each rounded", desk.due(1, HOME, 1), 1209);
        Check.equal("8: nothing left", desk.left(1), 0);
        Check.refused("8: nothing to draw", ARGUMENT, () -> desk.draw(1, 1));
        Check.refused("8: more than is left", ARGUMENT, () -> desk.draw(0, 668));
        Check.equal("8: all that is left", desk.draw(0, 667), 12100);
        Check.equal("8: the rate of the deal stays", desk.rate(0), 12100);
        Check.equal("8: the window stays", desk.window(0), 10);
    }

    private static void drawEarly() {
        Forwardroll desk = deskWithPoints(12000, 10);
        desk.deal(0, 1, true, 10000, 8, 20);
        desk.deal(1, 1, false, 10000, 8, 20);
        Check.equal("8: early", desk.draw(0, 1000), 12120);
        Check.equal("8: early, owed at that rate", desk.due(0, HOME, 1), -1212);
        desk.setPoints(1, -5);
        Check.equal("8: the points of now", desk.draw(0, 1000), 12240);
        desk.pass(7);
        Check.equal("8: a day early", desk.draw(1, 1000), 12205);
        Check.equal("8: early, due at that rate", desk.due(1, HOME, 1), 1220);
        desk.pass(1);
        Check.equal("8: no more early", desk.draw(1, 1000), 12200);
    }

    private static void rollCarried() {
        Forwardroll desk = deskWithPoints(10000, 20);
        desk.deal(0, 1, true, 1000, 2, 10);
        desk.draw(0, 400);
        desk.setRate(1, 15000);
        desk.setPoints(1, -7);
        Check.equal("9: rate plus points for the days", desk.roll(0, 30, false), 9990);
        Check.equal("9: rate", desk.rate(0), 9990);
        Check.equal("9: window", desk.window(0), 100040);
        Check.equal("9: left stays", desk.left(0), 600);
        Check.equal("9: nothing but the drawing is due", desk.due(0, HOME, 1), -406);
        Check.equal("9: early again", desk.draw(0, 100), 10060);
        Forwardroll low = deskWithPoints(100, -50);
        low.deal(0, 1, true, 1000, 0, 0);
        Check.equal("9: not 0", low.roll(0, 2, false), 1);
        Check.equal("9: not below 1", low.roll(0, 2, false), 1);
    }

    private static void rollSettled() {
        Forwardroll desk = deskWithPoints(10000, 20);
        desk.deal(0, 1, true, 1000, 2, 10);
        desk.deal(1, 1, false, 1000, 2, 10);
        desk.setRate(1, 15000);
        desk.setPoints(1, 10);
        Check.equal("9: the forward rate for the new last day", desk.roll(0, 30, true), 15400);
        Check.equal("9: the gain at the old last day is due", desk.due(0, HOME, 1), 490);
        Check.equal("9: no gain is left", desk.gain(0), 0);
        Check.equal("9: window", desk.window(0), 100040);
        Check.equal("9: a seller's rate", desk.roll(1, 100, true), 16100);
        Check.equal("9: a seller owes the loss", desk.due(1, HOME, 1), -490);
        Check.equal("9: no foreign money", desk.due(1, 1, 1), 0);
        desk.pass(1);
        Check.equal("9: settled", desk.balance(0, HOME), 490);
    }

    private static void rollLoss() {
        Forwardroll desk = new Forwardroll();
        desk.deal(0, 1, true, 1000, 0, 10);
        desk.draw(0, 500);
        desk.pass(4);
        desk.setRate(1, 8000);
        Check.equal("9: lower rate", desk.roll(0, 1, true), 8000);
        Check.equal("9: a loss of what is left, on the settlement day", desk.due(0, HOME, 3), -100);
    }

    private static void closeOut() {
        Forwardroll desk = deskWithPoints(10000, 10);
        desk.deal(0, 1, true, 1000, 0, 10);
        desk.deal(1, 1, false, 1000, 0, 10);
        desk.draw(0, 200);
        desk.setRate(1, 10500);
        desk.pass(4);
        Check.equal("10: a buyer's gain", desk.closeOut(0), 36);
        Check.equal("10: due on the settlement day", desk.due(0, HOME, 3), 36);
        Check.equal("10: not on the next day", desk.due(0, HOME, 1), 0);
        Check.equal("10: nothing is left", desk.left(0), 0);
        Check.refused("10: nothing to close out", STATE, () -> desk.closeOut(0));
        Check.equal("10: a seller's loss", desk.closeOut(1), -46);
        Check.equal("10: owed", desk.due(1, HOME, 3), -46);
        Check.equal("10: no foreign money", desk.due(1, 1, 3), 0);
        Check.equal("10: rate stays", desk.rate(0), 10100);
        Check.equal("10: window stays", desk.window(0), 10);
        Check.equal("10: closed out once", desk.pass(7), 0);
        Check.equal("10: settled", desk.balance(0, HOME), 36 - 202);
    }

    private static void leftRateAndWindowOfADeal() {
        Forwardroll desk = deskWithPoints(10000, 10);
        desk.deal(0, 1, true, 1000, 1, 9);
        desk.deal(0, 2, true, 7, 0, 3);
        desk.draw(0, 1);
        Check.equal("11: drawn one", desk.left(0), 999);
        desk.draw(0, 998);
        Check.equal("11: one left", desk.left(0), 1);
        Check.equal("11: another deal", desk.left(1), 7);
        Check.equal("12: rate", desk.rate(0), 10090);
        Check.equal("12: another deal", desk.rate(1), 10000);
        Check.equal("13: window", desk.window(0), 10009);
        Check.equal("13: another deal", desk.window(1), 3);
        desk.pass(10);
        Check.equal("11: over", desk.left(0), 0);
        Check.equal("12: over", desk.rate(0), 10090);
        Check.equal("13: over", desk.window(0), 10009);
    }

    private static void gain() {
        Forwardroll desk = deskWithPoints(10000, 10);
        desk.deal(0, 1, true, 1000000, 0, 10);
        desk.deal(0, 1, false, 1000000, 0, 10);
        Check.equal("14: none at first", desk.gain(0), 0);
        desk.setRate(1, 100000);
        desk.setPoints(1, 50);
        Check.equal("14: a buyer's", desk.gain(0), 9040000);
        Check.equal("14: a seller's", desk.gain(1), -9040000);
        desk.pass(4);
        Check.equal("14: six days before the last", desk.gain(0), 9020000);
        desk.draw(0, 500000);
        Check.equal("14: of what is left", desk.gain(0), 4510000);
        desk.draw(0, 500000);
        Check.equal("14: nothing left", desk.gain(0), 0);
        desk.pass(7);
        Check.equal("14: over", desk.gain(1), 0);
    }

    private static void exposureIsTheWorse() {
        Forwardroll desk = new Forwardroll();
        desk.deal(0, 1, true, 10000, 0, 5);
        desk.deal(1, 1, false, 10000, 0, 5);
        Check.equal("15: a buyer's", desk.exposure(0), 1000);
        Check.equal("15: a seller's", desk.exposure(1), 1000);
        desk.setRate(1, 10500);
        Check.equal("15: a buyer's, higher rate", desk.exposure(0), 550);
        Check.equal("15: a seller's, higher rate", desk.exposure(1), 1550);
        desk.setRate(1, 20000);
        Check.equal("15: 0 at least", desk.exposure(0), 0);
        Check.equal("15: far above", desk.exposure(1), 12000);
        desk.draw(1, 5000);
        Check.equal("15: of what is left", desk.exposure(1), 6000);
        desk.closeOut(1);
        Check.equal("15: nothing left", desk.exposure(1), 0);
    }

    private static void exposureAddsTheDealsOfACustomer() {
        Forwardroll desk = new Forwardroll();
        desk.deal(3, 0, true, 10000, 0, 5);
        desk.deal(3, 1, false, 4000, 0, 5);
        desk.deal(2, 1, false, 50000, 0, 5);
        Check.equal("15: both currencies shift alike", desk.exposure(3), 600);
        Check.equal("15: another customer's", desk.exposure(2), 5000);
        Check.equal("15: without deals", desk.exposure(0), 0);
        desk.deal(3, 2, false, 20000, 0, 5);
        Check.equal("15: now the shift up is worse", desk.exposure(3), 1400);
    }
}
