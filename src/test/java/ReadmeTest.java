/** The example of README.md, so that it stays true. */
public final class ReadmeTest {
    public static void main(String[] args) {
        Forwardroll desk = new Forwardroll();
        desk.setRate(0, 12000);
        desk.setPoints(0, 10);
        int deal = desk.deal(0, 0, true, 10000, 10, 30);
        int early = desk.draw(deal, 2000);
        desk.pass(1);
        long foreign = desk.balance(0, 0);
        long home = desk.balance(0, 4);
        int carried = desk.roll(deal, 20, false);
        long gain = desk.closeOut(deal);
        Check.equal("8: rate of the early drawing", early, 12200);
        Check.equal("18: balance of the currency", foreign, 2000);
        Check.equal("18: balance of home money", home, -2440);
        Check.equal("9: carried rate", carried, 12500);
        Check.equal("10: gain of closing out", gain, -8);
        Check.end("ReadmeTest");
    }
}
