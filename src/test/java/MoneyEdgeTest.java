/**
 * The boundary cases of "Terms" that are about rates and amounts: a rate of 1 at least, rounding down,
 * an exposure of 0 at least, net amounts on either side of 0, and the greatest numbers.
 */
public final class MoneyEdgeTest {
    private static final int HOME = 4;

    public static void main(String[] args) {
        forwardRateIsOneAtLeast();
        forwardRateMayBeAboveTheHighestRate();
        dealRateIsOneAtLeast();
        earlyRateIsOneAtLeast();
        carriedRateIsOneAtLeast();
        settledRateIsOneAtLeast();
        gainIsAtAMarketRateOfOneAtLeast();
        settledGainIsAtAMarketRateOfOneAtLeast();
        homeAmountIsRoundedDown();
        everyDrawingIsRounded();
        earlyHomeAmountIsRoundedDown();
        gainRoundsEachHomeAmount();
        settledGainOnEitherSideOfZero();
        closedOutGainOnEitherSideOfZero();
        dueOnEitherSideOfZero();
        shiftedRateIsRoundedDown();
        shiftedRateIsOneAtLeast();
        buyersExposureIsZeroAtLeast();
        sellersExposureIsZeroAtLeast();
        exposureIsTheGreaterOfTheTwo();
        exposureOfNothing();
        amountsBeyondAnInt();
        highestRateOfAll();
        manyGreatDeals();
        Check.end("MoneyEdgeTest");
    }

    private static Forwardroll deskAt(int rate, int points) {
        Forwardroll desk = new Forwardroll();
        desk.setRate(1, rate);
        desk.setPoints(1, points);
        return desk;
    }

    private static void forwardRateIsOneAtLeast() {
        Check.equal("6: 101 less 100", deskAt(101, -50).forward(1, 2), 1);
        Check.equal("6: 100 less 100, not 0", deskAt(100, -50).forward(1, 2), 1);
        Check.equal("6: 99 less 100", deskAt(99, -50).forward(1, 2), 1);
        Check.equal("6: 102 less 100", deskAt(102, -50).forward(1, 2), 2);
        Check.equal("6: as low as can be", deskAt(1, -50).forward(1, 400), 1);
        Check.equal("6: the lowest rate of today", deskAt(1, -50).forward(1, 0), 1);
    }

    private static void forwardRateMayBeAboveTheHighestRate() {
        Check.equal("6: as high as can be", deskAt(100000, 50).forward(1, 400), 120000);
        Check.equal("6: a point above", deskAt(100000, 1).forward(1, 1), 100001);
    }

    private static int rateOfADeal(Forwardroll desk, int last) {
        return desk.rate(desk.deal(0, 1, true, 10, 0, last));
    }

    private static void dealRateIsOneAtLeast() {
        Check.equal("7: 101 less 100", rateOfADeal(deskAt(101, -50), 2), 1);
        Check.equal("7: 100 less 100, not 0", rateOfADeal(deskAt(100, -50), 2), 1);
        Check.equal("7: 102 less 100", rateOfADeal(deskAt(102, -50), 2), 2);
        Check.equal("7: as low as can be", rateOfADeal(deskAt(1, -50), 400), 1);
        Check.equal("7: as high as can be", rateOfADeal(deskAt(100000, 50), 400), 120000);
    }

    /** A deal of 10000 units at a rate of 30, whose first day is three days ahead. */
    private static Forwardroll deskWithEarlyDeal(int points) {
        Forwardroll desk = deskAt(30, 0);
        desk.deal(0, 1, true, 10000, 3, 3);
        desk.setPoints(1, points);
        return desk;
    }

    private static void earlyRateIsOneAtLeast() {
        Check.equal("8: 30 less 27", deskWithEarlyDeal(9).draw(0, 1), 3);
        Check.equal("8: 30 less 30, not 0", deskWithEarlyDeal(10).draw(0, 1), 1);
        Check.equal("8: 30 less 33", deskWithEarlyDeal(11).draw(0, 1), 1);
        Check.equal("8: 30 less 150", deskWithEarlyDeal(50).draw(0, 1), 1);
        Check.equal("8: 30 and 150", deskWithEarlyDeal(-50).draw(0, 1), 180);
        Forwardroll desk = deskWithEarlyDeal(50);
        desk.draw(0, 10000);
        Check.equal("8: owed at the rate of 1", desk.due(0, HOME, 1), -1);
        Check.equal("8: the rate of the deal stays", desk.rate(0), 30);
    }

    private static int rollBy2(int rate, boolean isSettled) {
        Forwardroll desk = deskAt(rate, 0);
        desk.deal(0, 1, true, 10, 0, 0);
        desk.setPoints(1, -50);
        return desk.roll(0, 2, isSettled);
    }

    private static void carriedRateIsOneAtLeast() {
        Check.equal("9: 102 less 100, carried", rollBy2(102, false), 2);
        Check.equal("9: 101 less 100, carried", rollBy2(101, false), 1);
        Check.equal("9: 100 less 100, carried, not 0", rollBy2(100, false), 1);
        Check.equal("9: 99 less 100, carried", rollBy2(99, false), 1);
        Forwardroll desk = deskAt(1, -50);
        desk.deal(0, 1, true, 10, 0, 0);
        Check.equal("9: as low as can be, carried", desk.roll(0, 100, false), 1);
        desk.setPoints(1, 7);
        Check.equal("9: up from 1, not from below", desk.roll(0, 1, false), 8);
    }

    private static void settledRateIsOneAtLeast() {
        Check.equal("9: 102 less 100, settled", rollBy2(102, true), 2);
        Check.equal("9: 101 less 100, settled", rollBy2(101, true), 1);
        Check.equal("9: 100 less 100, settled, not 0", rollBy2(100, true), 1);
        Check.equal("9: 99 less 100, settled", rollBy2(99, true), 1);
    }

    /** Bought at 30; the forward rate for the last day, ten days ahead, is the rate less 10 * points. */
    private static Forwardroll deskWithFallenRate(int rate, int points) {
        Forwardroll desk = deskAt(30, 0);
        desk.deal(0, 1, true, 10000, 0, 10);
        desk.setRate(1, rate);
        desk.setPoints(1, -points);
        return desk;
    }

    private static void gainIsAtAMarketRateOfOneAtLeast() {
        Check.equal("14: at 2", deskWithFallenRate(502, 50).gain(0), -28);
        Check.equal("14: at 1", deskWithFallenRate(501, 50).gain(0), -29);
        Check.equal("14: not at 0", deskWithFallenRate(500, 50).gain(0), -29);
        Check.equal("14: not below", deskWithFallenRate(1, 50).gain(0), -29);
        Check.equal("10: at 2", deskWithFallenRate(502, 50).closeOut(0), -28);
        Check.equal("10: not at 0", deskWithFallenRate(500, 50).closeOut(0), -29);
        Check.equal("10: not below", deskWithFallenRate(1, 50).closeOut(0), -29);
    }

    private static void settledGainIsAtAMarketRateOfOneAtLeast() {
        Forwardroll desk = deskWithFallenRate(500, 50);
        Check.equal("9: the rate falls no further", desk.roll(0, 5, true), 1);
        Check.equal("9: the gain at 1", desk.due(0, HOME, 1), -29);
    }

    private static long owedFor(int amount, int rate) {
        Forwardroll desk = deskAt(rate, 0);
        desk.deal(0, 1, true, amount, 0, 0);
        desk.draw(0, amount);
        return -desk.due(0, HOME, 1);
    }

    private static long dueFor(int amount, int rate) {
        Forwardroll desk = deskAt(rate, 0);
        desk.deal(0, 1, false, amount, 0, 0);
        desk.draw(0, amount);
        return desk.due(0, HOME, 1);
    }

    private static void homeAmountIsRoundedDown() {
        int[][] cases = {{1, 9999, 0}, {1, 10000, 1}, {1, 19999, 1}, {1, 20000, 2}, {9999, 1, 0}, {10000, 1, 1},
            {3, 3333, 0}, {3, 3334, 1}, {1, 1, 0}, {7, 9999, 6}};
        for (int[] one : cases) {
            String what = "8: " + one[0] + " at " + one[1];
            Check.equal(what + ", owed by a buyer", owedFor(one[0], one[1]), one[2]);
            Check.equal(what + ", due to a seller", dueFor(one[0], one[1]), one[2]);
        }
    }

    private static void everyDrawingIsRounded() {
        Forwardroll desk = deskAt(15000, 0);
        desk.deal(0, 1, true, 2, 0, 0);
        desk.draw(0, 1);
        desk.draw(0, 1);
        Check.equal("8: 1 and 1, not 3", desk.due(0, HOME, 1), -2);
        Check.equal("8: both at once", owedFor(2, 15000), 3);
    }

    private static void earlyHomeAmountIsRoundedDown() {
        Forwardroll desk = deskAt(10000, 0);
        desk.deal(0, 1, true, 1, 1, 1);
        desk.deal(1, 1, false, 1, 1, 1);
        desk.setPoints(1, 1);
        desk.draw(0, 1);
        desk.draw(1, 1);
        Check.equal("8: owed at 9999", desk.due(0, HOME, 1), 0);
        Check.equal("8: due at 9999", desk.due(1, HOME, 1), 0);
        Check.equal("8: the foreign amount is due", desk.due(0, 1, 1), 1);
        Check.equal("8: the foreign amount is owed", desk.due(1, 1, 1), -1);
    }

    /** Three units are bought and sold at 10001, which is 3 in home money, rounded down. */
    private static void gainRoundsEachHomeAmount() {
        Forwardroll desk = deskAt(10001, 0);
        desk.deal(0, 1, true, 3, 0, 10);
        desk.deal(0, 1, false, 3, 0, 10);
        desk.setRate(1, 9999);
        Check.equal("14: 2 less 3", desk.gain(0), -1);
        Check.equal("14: the opposite number", desk.gain(1), 1);
        desk.setRate(1, 13333);
        Check.equal("14: 3 less 3", desk.gain(0), 0);
        Check.equal("14: 3 less 3, sold", desk.gain(1), 0);
        desk.setRate(1, 13334);
        Check.equal("14: 4 less 3", desk.gain(0), 1);
        Check.equal("14: 4 less 3, sold", desk.gain(1), -1);
    }

    private static Forwardroll deskWithDealAt10000(boolean buys, int market) {
        Forwardroll desk = deskAt(10000, 0);
        desk.deal(0, 1, buys, 10000, 0, 5);
        desk.setRate(1, market);
        return desk;
    }

    private static long dueAfterSettledRoll(boolean buys, int market) {
        Forwardroll desk = deskWithDealAt10000(buys, market);
        desk.roll(0, 1, true);
        return desk.due(0, HOME, 1);
    }

    private static void settledGainOnEitherSideOfZero() {
        Check.equal("9: a buyer's gain is due", dueAfterSettledRoll(true, 10001), 1);
        Check.equal("9: no gain", dueAfterSettledRoll(true, 10000), 0);
        Check.equal("9: a buyer's loss is owed", dueAfterSettledRoll(true, 9999), -1);
        Check.equal("9: a seller's loss is owed", dueAfterSettledRoll(false, 10001), -1);
        Check.equal("9: a seller's gain is due", dueAfterSettledRoll(false, 9999), 1);
    }

    private static void closeOutIs(String what, boolean buys, int market, long due) {
        Forwardroll desk = deskWithDealAt10000(buys, market);
        Check.equal("10: " + what, desk.closeOut(0), due);
        Check.equal("10: " + what + ", due", desk.due(0, HOME, 1), due);
    }

    private static void closedOutGainOnEitherSideOfZero() {
        closeOutIs("a buyer's gain", true, 10001, 1);
        closeOutIs("no gain", true, 10000, 0);
        closeOutIs("a buyer's loss", true, 9999, -1);
        closeOutIs("a seller's loss", false, 10001, -1);
        closeOutIs("a seller's gain", false, 9999, 1);
    }

    private static void dueOnEitherSideOfZero() {
        Forwardroll desk = deskAt(10000, 0);
        desk.deal(0, 1, true, 100, 0, 5);
        desk.deal(0, 1, false, 100, 0, 5);
        desk.draw(0, 10);
        desk.draw(1, 9);
        Check.equal("17: a unit more is due", desk.due(0, 1, 1), 1);
        Check.equal("17: a unit more of home money is owed", desk.due(0, HOME, 1), -1);
        desk.draw(1, 1);
        Check.equal("17: as much is owed as is due", desk.due(0, 1, 1), 0);
        Check.equal("17: as much home money, too", desk.due(0, HOME, 1), 0);
        desk.draw(1, 1);
        Check.equal("17: a unit more is owed", desk.due(0, 1, 1), -1);
        Check.equal("17: a unit more of home money is due", desk.due(0, HOME, 1), 1);
        desk.pass(1);
        Check.equal("18: a balance below 0", desk.balance(0, 1), -1);
        desk.draw(0, 1);
        desk.pass(1);
        Check.equal("18: a balance of 0 again", desk.balance(0, 1), 0);
        Check.equal("18: a balance of 0 again, home money", desk.balance(0, HOME), 0);
    }

    /** Made at the rate of now, so that the exposure is by how much the shift moves the rate. */
    private static long exposureAtOnce(boolean buys, int rate) {
        Forwardroll desk = deskAt(rate, 0);
        desk.deal(0, 1, buys, 10000, 0, 5);
        return desk.exposure(0);
    }

    private static void shiftedRateIsRoundedDown() {
        Check.equal("15: 15 falls to 13, not 14", exposureAtOnce(true, 15), 2);
        Check.equal("15: 15 rises to 16, not 17", exposureAtOnce(false, 15), 1);
        Check.equal("15: 9 falls to 8", exposureAtOnce(true, 9), 1);
        Check.equal("15: 9 rises to 9", exposureAtOnce(false, 9), 0);
        Check.equal("15: 10 falls to 9", exposureAtOnce(true, 10), 1);
        Check.equal("15: 10 rises to 11", exposureAtOnce(false, 10), 1);
        Check.equal("15: 11 falls to 9", exposureAtOnce(true, 11), 2);
    }

    private static void shiftedRateIsOneAtLeast() {
        Check.equal("15: 2 falls to 1", exposureAtOnce(true, 2), 1);
        Check.equal("15: 1 falls to 1, not to 0", exposureAtOnce(true, 1), 0);
        Check.equal("15: 1 rises to 1", exposureAtOnce(false, 1), 0);
        Check.equal("15: bought at 30, 1 falls to 1", deskWithFallenRate(1, 50).exposure(0), 29);
    }

    /** What was dealt at a rate stands at 10000 now: at 11000 and at 9000 by the shifts. */
    private static long exposureOfDealtAt(int rate, boolean buys) {
        Forwardroll desk = deskAt(rate, 0);
        desk.deal(0, 1, buys, 10000, 0, 5);
        desk.setRate(1, 10000);
        return desk.exposure(0);
    }

    private static void buyersExposureIsZeroAtLeast() {
        Check.equal("15: bought at 9001", exposureOfDealtAt(9001, true), 1);
        Check.equal("15: bought at 9000", exposureOfDealtAt(9000, true), 0);
        Check.equal("15: bought at 8999", exposureOfDealtAt(8999, true), 0);
        Check.equal("15: bought far below", exposureOfDealtAt(1, true), 0);
    }

    private static void sellersExposureIsZeroAtLeast() {
        Check.equal("15: sold at 10999", exposureOfDealtAt(10999, false), 1);
        Check.equal("15: sold at 11000", exposureOfDealtAt(11000, false), 0);
        Check.equal("15: sold at 11001", exposureOfDealtAt(11001, false), 0);
        Check.equal("15: sold far above", exposureOfDealtAt(100000, false), 0);
    }

    /** Both currencies are at 10000, so what is bought and what is sold move against each other. */
    private static long exposureOf(int bought, int sold) {
        Forwardroll desk = new Forwardroll();
        desk.deal(0, 1, true, bought, 0, 5);
        desk.deal(0, 2, false, sold, 0, 5);
        return desk.exposure(0);
    }

    private static void exposureIsTheGreaterOfTheTwo() {
        Check.equal("15: worse if rates fall", exposureOf(20000, 10000), 1000);
        Check.equal("15: alike", exposureOf(20000, 20000), 0);
        Check.equal("15: worse if rates rise", exposureOf(20000, 30000), 1000);
    }

    private static void exposureOfNothing() {
        Forwardroll desk = deskAt(10000, 0);
        Check.equal("15: no deals", desk.exposure(0), 0);
        desk.deal(0, 1, true, 10, 0, 3);
        desk.setRate(1, 1);
        Check.equal("15: one deal", desk.exposure(0), 10);
        Check.equal("15: no deals of another customer", desk.exposure(1), 0);
        desk.draw(0, 9);
        Check.equal("15: one unit left", desk.exposure(0), 1);
        desk.draw(0, 1);
        Check.equal("15: nothing left", desk.exposure(0), 0);
    }

    private static void amountsBeyondAnInt() {
        Forwardroll desk = deskAt(100000, 50);
        desk.setLimit(0, 100000000);
        desk.deal(0, 1, true, 1000000, 0, 400);
        Check.equal("15: 12000000 falls by a tenth", desk.exposure(0), 1200000);
        desk.setRate(1, 1);
        desk.setPoints(1, -50);
        Check.equal("14: 100 less 12000000", desk.gain(0), -11999900);
        desk.draw(0, 1000000);
        Check.equal("8: 1000000 at 120000", desk.due(0, HOME, 1), -12000000);
        Check.equal("8: the most there can be", desk.due(0, 1, 1), 1000000);
    }

    /** Carried from 120000 up to day 1400, and then drawn 300 days early with points below 0. */
    private static void highestRateOfAll() {
        Forwardroll desk = deskAt(100000, 50);
        desk.setLimit(0, 100000000);
        desk.deal(0, 1, false, 1000000, 0, 400);
        for (int i = 0; i < 10; i++) {
            desk.pass(100);
            desk.roll(0, 100, false);
        }
        Check.equal("12: carried ten times", desk.rate(0), 170000);
        Check.equal("13: the latest day of all", desk.window(0), 13001400);
        desk.setPoints(1, -50);
        Check.equal("8: early by 300 days", desk.draw(0, 1000000), 185000);
        Check.equal("8: due at that rate", desk.due(0, HOME, 1), 18500000);
    }

    private static void manyGreatDeals() {
        Forwardroll desk = deskAt(1, 0);
        for (int i = 0; i < 20; i++) {
            desk.deal(3, 1, false, 1000000, 0, 5);
        }
        desk.setRate(1, 100000);
        Check.equal("15: twenty of 11000000 less 100", desk.exposure(3), 219998000);
        Check.equal("19: all of them are closed out", desk.pass(6), 20);
        Check.equal("17: twenty of 10000000 less 100", desk.due(3, HOME, 1), -199998000);
        desk.pass(1);
        Check.equal("18: settled", desk.balance(3, HOME), -199998000);
    }
}
