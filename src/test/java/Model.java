import java.util.ArrayList;
import java.util.HashSet;
import java.util.List;
import java.util.Set;

/**
 * The document once more, told as plainly as can be: every booking is kept in a list, and each
 * answer is worked out from it anew. It has no checks of its own: ModelTest asks refusal() first.
 */
final class Model {
    static final int NONE = 0;
    static final int INDEX = 1;
    static final int ARGUMENT = 2;
    static final int STATE = 3;

    private record Booking(int customer, int what, int day, long amount) {
    }

    private static final class Deal {
        int customer;
        int currency;
        boolean buys;
        long left;
        long rate;
        int first;
        int last;
    }

    private final long[] rates = {10000, 10000, 10000, 10000};
    private final long[] points = new long[4];
    private final long[] limits = {1000000, 1000000, 1000000, 1000000, 1000000};
    private final Set<Integer> holidays = new HashSet<>();
    private final List<Deal> deals = new ArrayList<>();
    private final List<Booking> bookings = new ArrayList<>();
    private int today = 0;

    /** Which exception is due for a call, told by its name and its arguments. */
    int refusal(String call, int[] a) {
        switch (call) {
            case "setRate": return first(noCurrency(a[0]), outside(a[1], 1, 100000), NONE);
            case "setPoints": return first(noCurrency(a[0]), outside(a[1], -50, 50), NONE);
            case "toggleHoliday": return first(NONE, outside(a[0], 1, 1000), a[0] <= today ? STATE : NONE);
            case "setLimit": return first(noCustomer(a[0]), outside(a[1], 0, 100000000), NONE);
            case "forward": return first(noCurrency(a[0]), outside(a[1], 0, 400), NONE);
            case "deal": return dealRefusal(a);
            case "draw": return noDeal(a[0]) != NONE ? INDEX : outside(a[1], 1, (int) deals.get(a[0]).left);
            case "roll": return noDeal(a[0]) != NONE ? INDEX : first(NONE, outside(a[1], 1, 100), cannotRoll(a));
            case "closeOut": return noDeal(a[0]) != NONE ? INDEX : deals.get(a[0]).left == 0 ? STATE : NONE;
            case "left": case "rate": case "window": case "gain": return noDeal(a[0]);
            case "exposure": return noCustomer(a[0]);
            case "due": return first(noCustomer(a[0]), Math.max(outside(a[1], 0, 4), outside(a[2], 1, 20)), NONE);
            case "balance": return first(noCustomer(a[0]), outside(a[1], 0, 4), NONE);
            case "pass": return first(NONE, outside(a[0], 1, 100), today + (long) a[0] > 1000 ? STATE : NONE);
            default: return NONE;
        }
    }

    private static int first(int index, int argument, int state) {
        return index != NONE ? index : argument != NONE ? argument : state;
    }

    private static int outside(int value, int low, int high) {
        return value >= low && value <= high ? NONE : ARGUMENT;
    }

    private static int noCurrency(int currency) {
        return currency >= 0 && currency <= 3 ? NONE : INDEX;
    }

    private static int noCustomer(int customer) {
        return customer >= 0 && customer <= 4 ? NONE : INDEX;
    }

    private int noDeal(int deal) {
        return deal >= 0 && deal < deals.size() ? NONE : INDEX;
    }

    private int dealRefusal(int[] a) {
        int index = Math.max(noCustomer(a[0]), noCurrency(a[1]));
        int argument = Math.max(outside(a[3], 1, 1000000), Math.max(outside(a[4], 0, 400), outside(a[5], a[4], 400)));
        if (index != NONE || argument != NONE) {
            return first(index, argument, NONE);
        }
        if (deals.size() == 20) {
            return STATE;
        }
        deals.add(dealOf(a));
        boolean isTooMuch = exposure(a[0]) > limits[a[0]];
        deals.remove(deals.size() - 1);
        return isTooMuch ? STATE : NONE;
    }

    private int cannotRoll(int[] a) {
        Deal deal = deals.get(a[0]);
        return deal.left == 0 || deal.last + (long) a[1] > today + 400 ? STATE : NONE;
    }

    /** What a call that is not refused answers; truth counts 1. */
    long answer(String call, int[] a) {
        switch (call) {
            case "setRate": return exchange(rates, a[0], a[1]);
            case "setPoints": return exchange(points, a[0], a[1]);
            case "toggleHoliday": return holidays.remove(a[0]) || !holidays.add(a[0]) ? 0 : 1;
            case "setLimit": return exchange(limits, a[0], a[1]);
            case "forward": return forward(a[0], today + a[1]);
            case "deal": deals.add(dealOf(a)); return deals.size() - 1;
            case "draw": return draw(deals.get(a[0]), a[1]);
            case "roll": return roll(deals.get(a[0]), a[1], a[2] == 1);
            case "closeOut": return closeOut(deals.get(a[0]));
            case "left": return deals.get(a[0]).left;
            case "rate": return deals.get(a[0]).rate;
            case "window": return 10000L * deals.get(a[0]).first + deals.get(a[0]).last;
            case "gain": return gain(deals.get(a[0]), forward(deals.get(a[0]).currency, deals.get(a[0]).last));
            case "exposure": return exposure(a[0]);
            case "settlementDay": return settlementDay();
            case "due": return sum(a[0], a[1], today + a[2], today + a[2]);
            case "balance": return sum(a[0], a[1], 0, today);
            case "pass": return pass(a[0]);
            default: return today;
        }
    }

    private static long exchange(long[] row, int index, long value) {
        long before = row[index];
        row[index] = value;
        return before;
    }

    private long forward(int currency, int day) {
        return Math.max(1, rates[currency] + points[currency] * (day - today));
    }

    private static long home(long amount, long rate) {
        return Math.floorDiv(amount * rate, 10000L);
    }

    private Deal dealOf(int[] a) {
        Deal deal = new Deal();
        deal.customer = a[0];
        deal.currency = a[1];
        deal.buys = a[2] == 1;
        deal.left = a[3];
        deal.first = today + a[4];
        deal.last = today + a[5];
        deal.rate = forward(deal.currency, deal.last);
        return deal;
    }

    private long draw(Deal deal, int amount) {
        long rate = deal.rate;
        if (today < deal.first) {
            rate = Math.max(1, rate - points[deal.currency] * (deal.first - today));
        }
        int sign = deal.buys ? 1 : -1;
        bookings.add(new Booking(deal.customer, deal.currency, settlementDay(), sign * amount));
        bookings.add(new Booking(deal.customer, 4, settlementDay(), -sign * home(amount, rate)));
        deal.left -= amount;
        return rate;
    }

    private long roll(Deal deal, int days, boolean isSettled) {
        long gain = gain(deal, forward(deal.currency, deal.last));
        deal.first = deal.last;
        deal.last += days;
        if (isSettled) {
            bookings.add(new Booking(deal.customer, 4, settlementDay(), gain));
            deal.rate = forward(deal.currency, deal.last);
        } else {
            deal.rate = Math.max(1, deal.rate + points[deal.currency] * days);
        }
        return deal.rate;
    }

    private long closeOut(Deal deal) {
        long gain = gain(deal, forward(deal.currency, deal.last));
        bookings.add(new Booking(deal.customer, 4, settlementDay(), gain));
        deal.left = 0;
        return gain;
    }

    private static long gain(Deal deal, long marketRate) {
        long buyers = home(deal.left, marketRate) - home(deal.left, deal.rate);
        return deal.buys ? buyers : -buyers;
    }

    private long exposure(int customer) {
        long worst = 0;
        for (int shift : new int[] {10, -10}) {
            long sum = 0;
            for (Deal deal : deals) {
                if (deal.customer == customer) {
                    long market = forward(deal.currency, deal.last);
                    sum += gain(deal, Math.max(1, Math.floorDiv(market * (100 + shift), 100L)));
                }
            }
            worst = Math.max(worst, -sum);
        }
        return worst;
    }

    private int settlementDay() {
        int day = today + 1;
        while (day % 7 == 5 || day % 7 == 6 || holidays.contains(day)) {
            day++;
        }
        return day;
    }

    private long sum(int customer, int what, int from, int to) {
        long sum = 0;
        for (Booking booking : bookings) {
            if (booking.customer == customer && booking.what == what && booking.day >= from && booking.day <= to) {
                sum += booking.amount;
            }
        }
        return sum;
    }

    private long pass(int days) {
        long closed = 0;
        for (int i = 0; i < days; i++) {
            for (Deal deal : deals) {
                if (deal.last == today && deal.left > 0) {
                    closeOut(deal);
                    closed++;
                }
            }
            today++;
        }
        return closed;
    }
}
