/**
 * A currency forward desk: customers buy or sell foreign money at forward rates for a window of
 * days, draw it in parts, roll or close out what is left, and are settled net by business days.
 */
public final class Forwardroll {
    private static final int CUSTOMERS = 5;
    private static final int CURRENCIES = 4;
    private static final int DEALS = 20;
    /** Kinds of money: the currencies by their numbers, and home money behind them. */
    private static final int MONEYS = 5;
    private static final int HOME = 4;

    private static final int START_RATE = 10000;
    private static final int START_LIMIT = 1000000;
    private static final int RATE_UNIT = 10000;
    private static final int LOWEST_RATE = 1;
    private static final int HIGHEST_RATE = 100000;
    private static final int HIGHEST_POINTS = 50;
    private static final int HIGHEST_LIMIT = 100000000;
    private static final int HIGHEST_AMOUNT = 1000000;
    private static final int EXPOSURE_SHIFT = 10;

    private static final int LAST_TODAY = 1000;
    /** Day 1001 is no weekend and can't be a holiday: a search from any today ends there. */
    private static final int LAST_SETTLEMENT_DAY = LAST_TODAY + 1;
    private static final int DAYS_OF_A_WEEK = 7;
    private static final int BUSINESS_DAYS_OF_A_WEEK = 5;
    private static final int FARTHEST_FORWARD = 400;
    private static final int FARTHEST_DUE = 20;
    private static final int LONGEST_ROLL = 100;
    private static final int LONGEST_PASS = 100;
    private static final int WINDOW_FACTOR = 10000;

    private final Calendar calendar;
    private final Currency[] currencies;
    private final Customer[] customers;
    /** By their numbers; null behind the last deal that has been made. */
    private final Deal[] deals;
    private int dealCount;

    public Forwardroll() {
        calendar = new Calendar();
        currencies = new Currency[CURRENCIES];
        for (int i = 0; i < currencies.length; i++) {
            currencies[i] = new Currency(i);
        }
        customers = new Customer[CUSTOMERS];
        for (int i = 0; i < customers.length; i++) {
            customers[i] = new Customer();
        }
        deals = new Deal[DEALS];
    }

    // ---- market

    public int setRate(int currency, int rate) throws IndexOutOfBoundsException, IllegalArgumentException {
        Currency changed = currencyNumbered(currency);
        requireRange(rate, LOWEST_RATE, HIGHEST_RATE);
        int before = changed.spotRate;
        changed.spotRate = rate;
        return before;
    }

    public int setPoints(int currency, int points) throws IndexOutOfBoundsException, IllegalArgumentException {
        Currency changed = currencyNumbered(currency);
        requireRange(points, -HIGHEST_POINTS, HIGHEST_POINTS);
        int before = changed.points;
        changed.points = points;
        return before;
    }

    public boolean toggleHoliday(int day) throws IllegalArgumentException, IllegalStateException {
        requireRange(day, 1, LAST_TODAY);
        if (day <= calendar.today) {
            throw new IllegalStateException("the day is not later than today");
        }
        return calendar.flipHoliday(day);
    }

    public int setLimit(int customer, int limit) throws IndexOutOfBoundsException, IllegalArgumentException {
        Customer changed = customerNumbered(customer);
        requireRange(limit, 0, HIGHEST_LIMIT);
        int before = changed.limit;
        changed.limit = limit;
        return before;
    }

    public int forward(int currency, int days) throws IndexOutOfBoundsException, IllegalArgumentException {
        Currency asked = currencyNumbered(currency);
        requireRange(days, 0, FARTHEST_FORWARD);
        return asked.forwardRate(days);
    }

    // ---- deals

    public int deal(int customer, int currency, boolean buys, int amount, int first, int last)
            throws IndexOutOfBoundsException, IllegalArgumentException, IllegalStateException {
        Customer client = customerNumbered(customer);
        Currency dealt = currencyNumbered(currency);
        requireRange(amount, 1, HIGHEST_AMOUNT);
        requireRange(first, 0, FARTHEST_FORWARD);
        requireRange(last, first, FARTHEST_FORWARD);
        int number = dealCount;
        if (!isIndex(number, deals.length)) {
            throw new IllegalStateException("there have been as many deals as there can be");
        }
        int today = calendar.today;
        Deal made = new Deal(client, dealt, buys, amount, dealt.forwardRate(last), today + first, today + last);
        if (exposureWith(client, made) > client.limit) {
            throw new IllegalStateException("the exposure would be greater than the limit");
        }
        deals[number] = made;
        dealCount = number + 1;
        return number;
    }

    public int draw(int deal, int amount) throws IndexOutOfBoundsException, IllegalArgumentException {
        Deal drawn = dealNumbered(deal);
        requireRange(amount, 1, drawn.amountLeft);
        int drawnRate = drawn.drawingRate(calendar.today);
        long home = homeAmount(amount, drawnRate);
        int day = calendar.nextBusinessDay();
        drawn.customer.book(drawn.currency.number, day, drawn.buys ? amount : -amount);
        drawn.customer.book(HOME, day, drawn.buys ? -home : home);
        drawn.amountLeft -= amount;
        return drawnRate;
    }

    public int roll(int deal, int days, boolean isSettled)
            throws IndexOutOfBoundsException, IllegalArgumentException, IllegalStateException {
        Deal rolled = dealNumbered(deal);
        requireRange(days, 1, LONGEST_ROLL);
        requireLeft(rolled);
        if (rolled.lastDay + days - calendar.today > FARTHEST_FORWARD) {
            throw new IllegalStateException("the last day would be too late");
        }
        if (isSettled) {
            bookGain(rolled);
            rolled.moveWindow(days);
            rolled.agreedRate = rolled.marketRate(calendar.today);
        } else {
            rolled.moveWindow(days);
            rolled.agreedRate = rolled.currency.laterRate(rolled.agreedRate, days);
        }
        return rolled.agreedRate;
    }

    public long closeOut(int deal) throws IndexOutOfBoundsException, IllegalStateException {
        Deal closed = dealNumbered(deal);
        requireLeft(closed);
        long booked = bookGain(closed);
        closed.amountLeft = 0;
        return booked;
    }

    public int left(int deal) throws IndexOutOfBoundsException {
        return dealNumbered(deal).amountLeft;
    }

    public int rate(int deal) throws IndexOutOfBoundsException {
        return dealNumbered(deal).agreedRate;
    }

    public int window(int deal) throws IndexOutOfBoundsException {
        Deal asked = dealNumbered(deal);
        return WINDOW_FACTOR * asked.firstDay + asked.lastDay;
    }

    public long gain(int deal) throws IndexOutOfBoundsException {
        return dealNumbered(deal).marketGain(calendar.today);
    }

    public long exposure(int customer) throws IndexOutOfBoundsException {
        Customer client = customerNumbered(customer);
        return worseLoss(lossOfAll(client, EXPOSURE_SHIFT), lossOfAll(client, -EXPOSURE_SHIFT));
    }

    // ---- settlement

    public int settlementDay() {
        return calendar.nextBusinessDay();
    }

    public long due(int customer, int what, int days) throws IndexOutOfBoundsException, IllegalArgumentException {
        Customer client = customerNumbered(customer);
        requireRange(what, 0, HOME);
        requireRange(days, 1, FARTHEST_DUE);
        return client.netAmount(what, calendar.today + days);
    }

    public long balance(int customer, int what) throws IndexOutOfBoundsException, IllegalArgumentException {
        Customer client = customerNumbered(customer);
        requireRange(what, 0, HOME);
        return client.balances.amountOf(what);
    }

    public int pass(int days) throws IllegalArgumentException, IllegalStateException {
        requireRange(days, 1, LONGEST_PASS);
        if (calendar.today + days > LAST_TODAY) {
            throw new IllegalStateException("today would be too late");
        }
        int closedOut = 0;
        for (int i = 0; i < days; i++) {
            closedOut += endDealsOfToday();
            calendar.today++;
            settleAll(calendar.today);
        }
        return closedOut;
    }

    public int today() {
        return calendar.today;
    }

    // ---- looking up and checking arguments

    private Currency currencyNumbered(int number) {
        Currency found = isIndex(number, currencies.length) ? currencies[number] : null;
        if (found == null) {
            throw new IndexOutOfBoundsException("no such currency");
        }
        return found;
    }

    private Customer customerNumbered(int number) {
        Customer found = isIndex(number, customers.length) ? customers[number] : null;
        if (found == null) {
            throw new IndexOutOfBoundsException("no such customer");
        }
        return found;
    }

    private Deal dealNumbered(int number) {
        Deal found = isIndex(number, deals.length) ? deals[number] : null;
        if (found == null) {
            throw new IndexOutOfBoundsException("no such deal");
        }
        return found;
    }

    private static void requireRange(int value, int lowest, int highest) {
        if (value < lowest || value > highest) {
            throw new IllegalArgumentException("an argument is out of range");
        }
    }

    private static void requireLeft(Deal deal) {
        if (deal.amountLeft == 0) {
            throw new IllegalStateException("nothing is left of the deal");
        }
    }

    private static boolean isIndex(int index, int length) {
        return index >= 0 && index < length;
    }

    // ---- closing out, settling and exposure

    private int endDealsOfToday() {
        int ended = 0;
        for (Deal deal : deals) {
            if (deal != null && deal.amountLeft > 0 && deal.lastDay == calendar.today) {
                bookGain(deal);
                deal.amountLeft = 0;
                ended++;
            }
        }
        return ended;
    }

    private long bookGain(Deal deal) {
        long booked = deal.marketGain(calendar.today);
        deal.customer.book(HOME, calendar.nextBusinessDay(), booked);
        return booked;
    }

    private void settleAll(int day) {
        for (Customer customer : customers) {
            if (customer != null) {
                customer.settle(day);
            }
        }
    }

    private long exposureWith(Customer client, Deal added) {
        int today = calendar.today;
        return worseLoss(
                lossOfAll(client, EXPOSURE_SHIFT) + added.shiftedLoss(today, EXPOSURE_SHIFT),
                lossOfAll(client, -EXPOSURE_SHIFT) + added.shiftedLoss(today, -EXPOSURE_SHIFT));
    }

    private long lossOfAll(Customer client, int shift) {
        long loss = 0;
        for (Deal deal : deals) {
            if (deal != null && deal.customer == client) {
                loss += deal.shiftedLoss(calendar.today, shift);
            }
        }
        return loss;
    }

    private static long worseLoss(long one, long other) {
        return Math.max(0L, Math.max(one, other));
    }

    private static long homeAmount(int amount, int rate) {
        return (long) amount * rate / RATE_UNIT;
    }

    /** Knows today, the holidays and the business days. */
    private static final class Calendar {
        private final boolean[] holidays = new boolean[LAST_TODAY + 1];
        private int today;

        boolean flipHoliday(int day) {
            if (!isIndex(day, holidays.length)) {
                return false;
            }
            holidays[day] = !holidays[day];
            return holidays[day];
        }

        boolean isBusinessDay(int day) {
            boolean isHoliday = isIndex(day, holidays.length) && holidays[day];
            return day % DAYS_OF_A_WEEK < BUSINESS_DAYS_OF_A_WEEK && !isHoliday;
        }

        int nextBusinessDay() {
            int day = today + 1;
            while (day < LAST_SETTLEMENT_DAY && !isBusinessDay(day)) {
                day++;
            }
            return day;
        }
    }

    /** A foreign currency with its rate of today and its points. */
    private static final class Currency {
        private final int number;
        private int spotRate = START_RATE;
        private int points;

        Currency(int number) {
            this.number = number;
        }

        int forwardRate(int days) {
            return laterRate(spotRate, days);
        }

        /** What a rate becomes when it is for so many days later (earlier, if below 0). */
        int laterRate(int rate, int days) {
            return Math.max(LOWEST_RATE, rate + points * days);
        }
    }

    /** A customer with a limit, the net amounts of each settlement day, and the balances. */
    private static final class Customer {
        private int limit = START_LIMIT;
        /** By day; made only when something is first due or owed then, as most days have nothing. */
        private final Amounts[] netAmounts = new Amounts[LAST_SETTLEMENT_DAY + 1];
        private final Amounts balances = new Amounts();

        void book(int money, int day, long amount) {
            if (!isIndex(day, netAmounts.length)) {
                return;
            }
            Amounts booked = netAmounts[day];
            if (booked == null) {
                booked = new Amounts();
                netAmounts[day] = booked;
            }
            booked.add(money, amount);
        }

        /** The net amounts of a day, or null if nothing has been due or owed then. */
        Amounts netAmountsOf(int day) {
            return isIndex(day, netAmounts.length) ? netAmounts[day] : null;
        }

        long netAmount(int money, int day) {
            Amounts booked = netAmountsOf(day);
            return booked == null ? 0L : booked.amountOf(money);
        }

        void settle(int day) {
            Amounts booked = netAmountsOf(day);
            if (booked != null) {
                balances.addAll(booked);
            }
        }
    }

    /** An amount of each kind of money. */
    private static final class Amounts {
        private final long[] byMoney = new long[MONEYS];

        void add(int money, long amount) {
            if (isIndex(money, byMoney.length)) {
                byMoney[money] += amount;
            }
        }

        void addAll(Amounts added) {
            for (int money = 0; money < MONEYS; money++) {
                add(money, added.amountOf(money));
            }
        }

        long amountOf(int money) {
            return isIndex(money, byMoney.length) ? byMoney[money] : 0L;
        }
    }

    /** What a customer buys or sells, at an agreed rate, within a window of days. */
    private static final class Deal {
        private final Customer customer;
        private final Currency currency;
        private final boolean buys;
        private int amountLeft;
        private int agreedRate;
        private int firstDay;
        private int lastDay;

        Deal(Customer customer, Currency currency, boolean buys, int amount, int rate, int firstDay, int lastDay) {
            this.customer = customer;
            this.currency = currency;
            this.buys = buys;
            this.amountLeft = amount;
            this.agreedRate = rate;
            this.firstDay = firstDay;
            this.lastDay = lastDay;
        }

        int marketRate(int today) {
            return currency.forwardRate(lastDay - today);
        }

        long marketGain(int today) {
            return gainAt(marketRate(today));
        }

        /** Minus the value at a rate shift in percent. */
        long shiftedLoss(int today, int shift) {
            int shifted = marketRate(today) * (100 + shift) / 100;
            return -gainAt(Math.max(LOWEST_RATE, shifted));
        }

        int drawingRate(int today) {
            return today < firstDay ? currency.laterRate(agreedRate, today - firstDay) : agreedRate;
        }

        void moveWindow(int days) {
            firstDay = lastDay;
            lastDay += days;
        }

        /** Both home amounts are rounded before one is taken from the other. */
        private long gainAt(int marketRate) {
            long difference = homeAmount(amountLeft, marketRate) - homeAmount(amountLeft, agreedRate);
            return buys ? difference : -difference;
        }
    }
}
