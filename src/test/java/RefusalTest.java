/**
 * All promises: each exception that a promise names, which goes first if several apply, and that
 * a call that throws changes nothing.
 */
public final class RefusalTest {
    private static final Class<IndexOutOfBoundsException> INDEX = IndexOutOfBoundsException.class;
    private static final Class<IllegalArgumentException> ARGUMENT = IllegalArgumentException.class;
    private static final Class<IllegalStateException> STATE = IllegalStateException.class;
    private static final int[] OUTSIDE_CUSTOMERS = {-1, 5, Integer.MIN_VALUE, Integer.MAX_VALUE};
    private static final int[] OUTSIDE_CURRENCIES = {-1, 4, Integer.MIN_VALUE, Integer.MAX_VALUE};
    private static final int[] OUTSIDE_DEALS = {-1, 3, 19, 20, Integer.MIN_VALUE, Integer.MAX_VALUE};

    private interface Call {
        void on(Forwardroll desk);
    }

    public static void main(String[] args) {
        market();
        deals();
        draws();
        rolls();
        lookingUp();
        settlement();
        atTheLastDay();
        withTwentyDeals();
        Check.end("RefusalTest");
    }

    /** On day 3: deal 0 is partly drawn, deal 1 is drawn wholly, deal 2 waits; customer 1 has no room. */
    private static Forwardroll desk() {
        Forwardroll desk = new Forwardroll();
        desk.setRate(0, 12000);
        desk.setPoints(0, 10);
        desk.setRate(2, 7000);
        desk.deal(0, 0, true, 10000, 1, 30);
        desk.deal(0, 1, false, 500, 0, 20);
        desk.deal(1, 2, false, 3000, 10, 350);
        desk.draw(0, 4000);
        desk.pass(3);
        desk.draw(1, 500);
        desk.draw(0, 1000);
        desk.toggleHoliday(8);
        desk.setLimit(1, 0);
        return desk;
    }

    private static void refused(String what, Class<? extends RuntimeException> due, Call call) {
        refusedOn(desk(), what, due, call);
    }

    private static void refusedOn(Forwardroll desk, String what, Class<? extends RuntimeException> due, Call call) {
        String before = stateOf(desk);
        Check.refused(what, due, () -> call.on(desk));
        Check.holds(what + " changes nothing", stateOf(desk).equals(before));
    }

    /** All that a desk answers without being changed; some 90 calls, and five more for each deal. */
    private static String stateOf(Forwardroll desk) {
        StringBuilder state = new StringBuilder();
        state.append(desk.today()).append(' ').append(desk.settlementDay());
        for (int currency = 0; currency < 4; currency++) {
            state.append(' ').append(desk.forward(currency, 0)).append(' ').append(desk.forward(currency, 7));
        }
        for (int customer = 0; customer < 5; customer++) {
            state.append('\n').append(desk.exposure(customer));
            for (int what = 0; what < 5; what++) {
                state.append(' ').append(desk.balance(customer, what));
                state.append(' ').append(desk.due(customer, what, 1)).append(' ').append(desk.due(customer, what, 4));
            }
        }
        for (int deal = 0; deal < 20 && hasDeal(desk, deal); deal++) {
            state.append('\n').append(desk.left(deal)).append(' ').append(desk.rate(deal));
            state.append(' ').append(desk.window(deal)).append(' ').append(desk.gain(deal));
        }
        return state.toString();
    }

    private static boolean hasDeal(Forwardroll desk, int deal) {
        try {
            desk.left(deal);
            return true;
        } catch (IndexOutOfBoundsException none) {
            return false;
        }
    }

    private static void market() {
        for (int currency : OUTSIDE_CURRENCIES) {
            refused("2: no such currency", INDEX, desk -> desk.setRate(currency, 5));
            refused("2: index first", INDEX, desk -> desk.setRate(currency, 0));
            refused("3: no such currency", INDEX, desk -> desk.setPoints(currency, 5));
            refused("3: index first", INDEX, desk -> desk.setPoints(currency, 51));
            refused("6: no such currency", INDEX, desk -> desk.forward(currency, 5));
            refused("6: index first", INDEX, desk -> desk.forward(currency, 401));
        }
        for (int customer : OUTSIDE_CUSTOMERS) {
            refused("5: no such customer", INDEX, desk -> desk.setLimit(customer, 5));
            refused("5: index first", INDEX, desk -> desk.setLimit(customer, -1));
        }
        for (int rate : new int[] {0, -1, 100001, Integer.MIN_VALUE, Integer.MAX_VALUE}) {
            refused("2: rate " + rate, ARGUMENT, desk -> desk.setRate(0, rate));
        }
        for (int points : new int[] {-51, 51, Integer.MIN_VALUE, Integer.MAX_VALUE}) {
            refused("3: points " + points, ARGUMENT, desk -> desk.setPoints(0, points));
        }
        for (int limit : new int[] {-1, 100000001, Integer.MIN_VALUE, Integer.MAX_VALUE}) {
            refused("5: limit " + limit, ARGUMENT, desk -> desk.setLimit(0, limit));
        }
        for (int days : new int[] {-1, 401, Integer.MIN_VALUE, Integer.MAX_VALUE}) {
            refused("6: days " + days, ARGUMENT, desk -> desk.forward(0, days));
        }
        for (int day : new int[] {0, -1, 1001, Integer.MIN_VALUE, Integer.MAX_VALUE}) {
            refused("4: day " + day, ARGUMENT, desk -> desk.toggleHoliday(day));
        }
        for (int day : new int[] {1, 2, 3}) {
            refused("4: not later, day " + day, STATE, desk -> desk.toggleHoliday(day));
        }
    }

    private static void deals() {
        for (int customer : OUTSIDE_CUSTOMERS) {
            refused("7: no such customer", INDEX, desk -> desk.deal(customer, 0, true, 1, 0, 0));
            refused("7: index first", INDEX, desk -> desk.deal(customer, 0, true, 0, 0, 0));
        }
        for (int currency : OUTSIDE_CURRENCIES) {
            refused("7: no such currency", INDEX, desk -> desk.deal(0, currency, true, 1, 0, 0));
            refused("7: index first", INDEX, desk -> desk.deal(1, currency, false, 9999, 0, 401));
        }
        for (int amount : new int[] {0, -1, 1000001, Integer.MIN_VALUE, Integer.MAX_VALUE}) {
            refused("7: amount " + amount, ARGUMENT, desk -> desk.deal(0, 0, true, amount, 0, 0));
        }
        for (int first : new int[] {-1, 401, Integer.MIN_VALUE, Integer.MAX_VALUE}) {
            refused("7: first " + first, ARGUMENT, desk -> desk.deal(0, 0, true, 1, first, 400));
            refused("7: first and last " + first, ARGUMENT, desk -> desk.deal(0, 0, true, 1, first, first));
        }
        for (int last : new int[] {-1, 4, 401, Integer.MIN_VALUE, Integer.MAX_VALUE}) {
            refused("7: last " + last, ARGUMENT, desk -> desk.deal(0, 0, true, 1, 5, last));
        }
        refused("7: above the limit", STATE, desk -> desk.deal(1, 0, true, 1, 0, 0));
        refused("7: argument before the limit", ARGUMENT, desk -> desk.deal(1, 0, true, 1000001, 0, 0));
        refused("7: last before the limit", ARGUMENT, desk -> desk.deal(1, 0, true, 1000000, 1, 0));
    }

    private static void draws() {
        for (int deal : OUTSIDE_DEALS) {
            refused("8: no such deal", INDEX, desk -> desk.draw(deal, 1));
            refused("8: index first", INDEX, desk -> desk.draw(deal, 0));
        }
        for (int amount : new int[] {0, -1, 5001, Integer.MIN_VALUE, Integer.MAX_VALUE}) {
            refused("8: amount " + amount, ARGUMENT, desk -> desk.draw(0, amount));
        }
        refused("8: nothing left", ARGUMENT, desk -> desk.draw(1, 1));
        refused("8: nothing left, 0 drawn", ARGUMENT, desk -> desk.draw(1, 0));
    }

    private static void rolls() {
        for (int deal : OUTSIDE_DEALS) {
            refused("9: no such deal", INDEX, desk -> desk.roll(deal, 1, true));
            refused("9: index first", INDEX, desk -> desk.roll(deal, 0, false));
            refused("10: no such deal", INDEX, desk -> desk.closeOut(deal));
        }
        for (int days : new int[] {0, -1, 101, Integer.MIN_VALUE, Integer.MAX_VALUE}) {
            refused("9: days " + days, ARGUMENT, desk -> desk.roll(0, days, true));
            refused("9: days before what is left", ARGUMENT, desk -> desk.roll(1, days, false));
        }
        refused("9: nothing left, settled", STATE, desk -> desk.roll(1, 1, true));
        refused("9: nothing left, carried", STATE, desk -> desk.roll(1, 1, false));
        refused("9: too late, settled", STATE, desk -> desk.roll(2, 54, true));
        refused("9: too late, carried", STATE, desk -> desk.roll(2, 54, false));
        Check.equal("9: just not too late", desk().roll(2, 53, true), 7000);
        refused("10: nothing left", STATE, desk -> desk.closeOut(1));
    }

    private static void lookingUp() {
        for (int deal : OUTSIDE_DEALS) {
            refused("11: no such deal", INDEX, desk -> desk.left(deal));
            refused("12: no such deal", INDEX, desk -> desk.rate(deal));
            refused("13: no such deal", INDEX, desk -> desk.window(deal));
            refused("14: no such deal", INDEX, desk -> desk.gain(deal));
        }
        for (int customer : OUTSIDE_CUSTOMERS) {
            refused("15: no such customer", INDEX, desk -> desk.exposure(customer));
        }
    }

    private static void settlement() {
        for (int customer : OUTSIDE_CUSTOMERS) {
            refused("17: no such customer", INDEX, desk -> desk.due(customer, 0, 1));
            refused("17: index first", INDEX, desk -> desk.due(customer, 5, 0));
            refused("18: no such customer", INDEX, desk -> desk.balance(customer, 0));
            refused("18: index first", INDEX, desk -> desk.balance(customer, 5));
        }
        for (int what : new int[] {-1, 5, Integer.MIN_VALUE, Integer.MAX_VALUE}) {
            refused("17: what " + what, ARGUMENT, desk -> desk.due(0, what, 1));
            refused("18: what " + what, ARGUMENT, desk -> desk.balance(0, what));
        }
        for (int days : new int[] {0, -1, 21, Integer.MIN_VALUE, Integer.MAX_VALUE}) {
            refused("17: days " + days, ARGUMENT, desk -> desk.due(0, 0, days));
        }
        for (int days : new int[] {0, -1, 101, Integer.MIN_VALUE, Integer.MAX_VALUE}) {
            refused("19: days " + days, ARGUMENT, desk -> desk.pass(days));
        }
    }

    private static void atTheLastDay() {
        Forwardroll desk = desk();
        for (int i = 0; i < 9; i++) {
            desk.pass(100);
        }
        desk.pass(48);
        desk.deal(0, 0, true, 100, 0, 40);
        desk.pass(48);
        refusedOn(desk, "19: to day 1001", STATE, late -> late.pass(2));
        Forwardroll last = lastDay();
        refusedOn(last, "19: argument before state", ARGUMENT, late -> late.pass(101));
        Check.refused("19: behind day 1000", STATE, () -> last.pass(1));
        Check.refused("4: argument before state", ARGUMENT, () -> last.toggleHoliday(1001));
        Check.refused("4: argument before state", ARGUMENT, () -> last.toggleHoliday(0));
        Check.refused("4: no day is later", STATE, () -> last.toggleHoliday(1000));
    }

    private static Forwardroll lastDay() {
        Forwardroll desk = new Forwardroll();
        for (int i = 0; i < 10; i++) {
            desk.pass(100);
        }
        return desk;
    }

    private static void withTwentyDeals() {
        Forwardroll desk = new Forwardroll();
        for (int i = 0; i < 20; i++) {
            desk.deal(0, 0, true, 1, 0, 0);
        }
        refusedOn(desk, "7: no more deals", STATE, full -> full.deal(0, 0, true, 1, 0, 0));
        Check.refused("7: argument before state", ARGUMENT, () -> desk.deal(0, 0, true, 0, 0, 0));
        Check.refused("7: argument before state", ARGUMENT, () -> desk.deal(0, 0, true, 1, 0, 401));
        Check.refused("7: index before state", INDEX, () -> desk.deal(0, 4, true, 1, 0, 0));
    }
}
