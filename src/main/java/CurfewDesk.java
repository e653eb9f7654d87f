/**
 * A curfew desk of a town.
 *
 * <p>Orders close quarters from some time ahead of dusk to some time behind dawn; trades are
 * exempt, passes are stamped, and those who go out without are fined. Time is told in half hours.
 */
public final class CurfewDesk {
    private static final int MAX_QUARTERS = 6;
    private static final int MAX_ORDERS = 10;
    private static final int MAX_PEOPLE = 20;
    private static final int TRADES = 8;
    private static final int COLOURS = 4;
    private static final int MAX_STAMPS = 9;
    private static final int MAX_MARGIN = 4;
    private static final int MAX_SHIFT = 4;
    private static final int MAX_PASSING = 200;
    private static final int MAX_DAYS_AHEAD = 99;
    private static final int FINE = 10;

    private static final int DAY = 48;
    private static final int DUSK = 34;
    private static final int DAWN = 14;
    private static final int TIDE_CYCLE = 40;
    private static final int TIDE_RISE = 20;
    private static final int TIDE_STEP = 4;

    private static final int NONE = -1;
    private static final long DIGEST_START = 1879;
    private static final long DIGEST_FACTOR = 31;

    // One row a kind of fact, made once, so that no call makes anything.
    private final int[] orderQuarter = new int[MAX_ORDERS];
    private final int[] orderAhead = new int[MAX_ORDERS];
    private final int[] orderBehind = new int[MAX_ORDERS];
    private final int[] orderColour = new int[MAX_ORDERS];
    private final boolean[] orderInForce = new boolean[MAX_ORDERS];
    /** Of each order, a bit for each exempt trade. */
    private final int[] orderExempt = new int[MAX_ORDERS];

    private final int[] personTrade = new int[MAX_PEOPLE];
    private final int[] personFined = new int[MAX_PEOPLE];
    private final int[] personOwes = new int[MAX_PEOPLE];
    /** Of each person, one element a colour. */
    private final int[] personStamps = new int[MAX_PEOPLE * COLOURS];

    private final int[] usedStamps = new int[COLOURS];

    private int quarterCount;
    private int orderCount;
    private int personCount;
    private int duskShift;
    /** The half hours that went by since the day 0 began. */
    private int now;

    /** Creates a town without quarters, orders and people, on the day 0 at the half hour 0. */
    public CurfewDesk() {
    }

    // ---- the town

    /** Returns the number of a new quarter. */
    public int addQuarter() throws IllegalStateException {
        if (quarterCount >= MAX_QUARTERS) {
            throw new IllegalStateException("the town has all its quarters");
        }
        int quarter = quarterCount;
        quarterCount++;
        return quarter;
    }

    /** Returns the number of a new person of this trade. */
    public int addPerson(int trade) throws IndexOutOfBoundsException, IllegalStateException {
        requireTrade(trade);
        if (personCount >= MAX_PEOPLE) {
            throw new IllegalStateException("the town has all its people");
        }
        int person = personCount;
        personTrade[person] = trade;
        personCount++;
        return person;
    }

    /** Returns the number of a new order, which is in force and exempts no trade. */
    public int addOrder(int quarter, int ahead, int behind, int colour)
            throws IndexOutOfBoundsException, IllegalArgumentException, IllegalStateException {
        requireQuarter(quarter);
        requireColour(colour);
        requireWithin(ahead, 0, MAX_MARGIN);
        requireWithin(behind, 0, MAX_MARGIN);
        if (orderCount >= MAX_ORDERS) {
            throw new IllegalStateException("the town has all its orders");
        }
        int order = orderCount;
        orderQuarter[order] = quarter;
        orderAhead[order] = ahead;
        orderBehind[order] = behind;
        orderColour[order] = colour;
        orderInForce[order] = true;
        orderCount++;
        return order;
    }

    /** Exempts a trade from an order, or not any more; returns whether it is exempt then. */
    public boolean turnExempt(int order, int trade) throws IndexOutOfBoundsException {
        requireOrder(order);
        requireTrade(trade);
        orderExempt[order] ^= 1 << trade;
        return exempts(order, trade);
    }

    /** Lifts an order, or puts it in force; returns whether it is in force then. */
    public boolean turnOrder(int order) throws IndexOutOfBoundsException {
        requireOrder(order);
        orderInForce[order] = !orderInForce[order];
        return orderInForce[order];
    }

    /** Sets the shift of dusk; returns the one before. */
    public int setShift(int shift) throws IllegalArgumentException {
        requireWithin(shift, -MAX_SHIFT, MAX_SHIFT);
        int before = duskShift;
        duskShift = shift;
        return before;
    }

    /** Gives a person stamps of a colour, up to 9; returns how many are left then. */
    public int givePass(int person, int colour, int stamps)
            throws IndexOutOfBoundsException, IllegalArgumentException {
        requirePerson(person);
        requireColour(colour);
        requireWithin(stamps, 1, MAX_STAMPS);
        int place = stampPlace(person, colour);
        personStamps[place] = Math.min(MAX_STAMPS, personStamps[place] + stamps);
        return personStamps[place];
    }

    /** Takes all stamps of a colour from a person; returns how many were left. */
    public int takePass(int person, int colour) throws IndexOutOfBoundsException {
        requirePerson(person);
        requireColour(colour);
        int place = stampPlace(person, colour);
        int left = personStamps[place];
        personStamps[place] = 0;
        return left;
    }

    /** Lets a person go out into a quarter; returns the fine, 0 for none. */
    public int goOut(int person, int quarter) throws IndexOutOfBoundsException {
        requirePerson(person);
        requireQuarter(quarter);
        boolean lacked = false;
        for (int order = 0; order < orderCount; order++) {
            if (bars(order, person, quarter, now) && !useStamp(person, orderColour[order])) {
                lacked = true;
            }
        }
        return lacked ? fineOnce(person) : 0;
    }

    /** Lets time go by; returns how many times an order began to be on in it. */
    public int pass(int halfHours) throws IllegalArgumentException {
        requireWithin(halfHours, 1, MAX_PASSING);
        int began = 0;
        for (int order = 0; order < orderCount; order++) {
            began += timesBegun(order, halfHours);
        }
        now += halfHours;
        return began;
    }

    // ---- time

    /** Returns how many days went by. */
    public int day() {
        return now / DAY;
    }

    /** Returns the half hour of the day. */
    public int halfHour() {
        return now % DAY;
    }

    /** Returns the half hour of dusk on the day that is so many days from today. */
    public int duskIn(int days) throws IllegalArgumentException {
        requireWithin(days, 0, MAX_DAYS_AHEAD);
        return duskOf(day() + days);
    }

    /** Returns the half hour of dawn on the day that is so many days from today. */
    public int dawnIn(int days) throws IllegalArgumentException {
        requireWithin(days, 0, MAX_DAYS_AHEAD);
        return dawnOf(day() + days);
    }

    // ---- orders

    /** Returns the quarter of an order. */
    public int quarterOf(int order) throws IndexOutOfBoundsException {
        requireOrder(order);
        return orderQuarter[order];
    }

    /** Returns the colour that an order accepts. */
    public int colourOf(int order) throws IndexOutOfBoundsException {
        requireOrder(order);
        return orderColour[order];
    }

    /** Returns whether an order is in force. */
    public boolean isInForce(int order) throws IndexOutOfBoundsException {
        requireOrder(order);
        return orderInForce[order];
    }

    /** Returns whether an order is on now. */
    public boolean isOn(int order) throws IndexOutOfBoundsException {
        requireOrder(order);
        return isOnAt(order, now);
    }

    /** Returns whether a trade is exempt from an order. */
    public boolean isExempt(int order, int trade) throws IndexOutOfBoundsException {
        requireOrder(order);
        requireTrade(trade);
        return exempts(order, trade);
    }

    /** Returns how many people an order bars now. */
    public int barredBy(int order) throws IndexOutOfBoundsException {
        requireOrder(order);
        int barred = 0;
        for (int person = 0; person < personCount; person++) {
            if (bars(order, person, orderQuarter[order], now)) {
                barred++;
            }
        }
        return barred;
    }

    // ---- people

    /** Returns the trade of a person. */
    public int tradeOf(int person) throws IndexOutOfBoundsException {
        requirePerson(person);
        return personTrade[person];
    }

    /** Returns how many stamps of a colour a person has left. */
    public int stampsOf(int person, int colour) throws IndexOutOfBoundsException {
        requirePerson(person);
        requireColour(colour);
        return personStamps[stampPlace(person, colour)];
    }

    /** Returns how many coins a person owes. */
    public int owes(int person) throws IndexOutOfBoundsException {
        requirePerson(person);
        return personOwes[person];
    }

    /** Returns how many times a person was fined. */
    public int timesFined(int person) throws IndexOutOfBoundsException {
        requirePerson(person);
        return personFined[person];
    }

    /** Returns how many orders bar a person from a quarter now. */
    public int ordersAgainst(int person, int quarter) throws IndexOutOfBoundsException {
        requirePerson(person);
        requireQuarter(quarter);
        int against = 0;
        for (int order = 0; order < orderCount; order++) {
            if (bars(order, person, quarter, now)) {
                against++;
            }
        }
        return against;
    }

    /** Returns whether a person can go out into a quarter now without a fine. */
    public boolean mayGo(int person, int quarter) throws IndexOutOfBoundsException {
        requirePerson(person);
        requireQuarter(quarter);
        return missing(person, quarter, NONE) == 0;
    }

    /** Returns how many stamps a person lacks to go out into a quarter now without a fine. */
    public int stampsMissing(int person, int quarter) throws IndexOutOfBoundsException {
        requirePerson(person);
        requireQuarter(quarter);
        return missing(person, quarter, NONE);
    }

    // ---- the town: what there is

    /** Returns how many quarters there are. */
    public int quarters() {
        return quarterCount;
    }

    /** Returns how many orders there are. */
    public int orders() {
        return orderCount;
    }

    /** Returns how many people there are. */
    public int people() {
        return personCount;
    }

    /** Returns how many orders are on now. */
    public int ordersOn() {
        int on = 0;
        for (int order = 0; order < orderCount; order++) {
            if (isOnAt(order, now)) {
                on++;
            }
        }
        return on;
    }

    /** Returns the shift of dusk. */
    public int shift() {
        return duskShift;
    }

    /** Returns how many coins all people owe. */
    public int allOwe() {
        int all = 0;
        for (int person = 0; person < personCount; person++) {
            all += personOwes[person];
        }
        return all;
    }

    /** Returns how many stamps of a colour were used in all. */
    public int stampsUsed(int colour) throws IndexOutOfBoundsException {
        requireColour(colour);
        return usedStamps[colour];
    }

    // ---- what would be

    /** Returns behind how many half hours, 0 to 48, no order bars a person from it; or -1. */
    public int halfHoursUntilFree(int person, int quarter) throws IndexOutOfBoundsException {
        requirePerson(person);
        requireQuarter(quarter);
        for (int wait = 0; wait <= DAY; wait++) {
            if (isFreeAt(person, quarter, now + wait)) {
                return wait;
            }
        }
        return NONE;
    }

    /** Returns how many of the 48 half hours from now an order is on, were it in force in all. */
    public int halfHoursOn(int order) throws IndexOutOfBoundsException {
        requireOrder(order);
        int on = 0;
        for (int wait = 0; wait < DAY; wait++) {
            if (isInHours(order, now + wait)) {
                on++;
            }
        }
        return on;
    }

    /** Returns the order by whose lifting most pairs of a person and a quarter get free, or -1. */
    public int bestLift() {
        int best = NONE;
        int most = 0;
        for (int order = 0; order < orderCount; order++) {
            int freed = pairsFreedBy(order);
            if (freed > most) {
                most = freed;
                best = order;
            }
        }
        return best;
    }

    /** Returns the mean of what people owe; 0 without any. */
    public double meanDebt() {
        if (personCount == 0) {
            return 0;
        }
        return (double) allOwe() / personCount;
    }

    /** Returns a checksum of all that can be seen. */
    public long digest() {
        long d = DIGEST_START;
        d = fold(d, day());
        d = fold(d, halfHour());
        d = fold(d, duskIn(0));
        d = fold(d, dawnIn(0));
        d = fold(d, quarterCount);
        d = fold(d, orderCount);
        d = fold(d, personCount);
        d = fold(d, ordersOn());
        d = fold(d, duskShift);
        for (int colour = 0; colour < COLOURS; colour++) {
            d = fold(d, usedStamps[colour]);
        }
        for (int order = 0; order < orderCount; order++) {
            d = foldOrder(d, order);
        }
        for (int person = 0; person < personCount; person++) {
            d = foldPerson(d, person);
        }
        return d;
    }

    private long foldOrder(long start, int order) {
        long d = start;
        d = fold(d, orderQuarter[order]);
        d = fold(d, orderColour[order]);
        d = fold(d, oneIf(orderInForce[order]));
        d = fold(d, oneIf(isOnAt(order, now)));
        d = fold(d, barredBy(order));
        for (int trade = 0; trade < TRADES; trade++) {
            d = fold(d, oneIf(exempts(order, trade)));
        }
        return d;
    }

    private long foldPerson(long start, int person) {
        long d = start;
        d = fold(d, personTrade[person]);
        d = fold(d, personOwes[person]);
        d = fold(d, personFined[person]);
        for (int colour = 0; colour < COLOURS; colour++) {
            d = fold(d, personStamps[stampPlace(person, colour)]);
        }
        for (int quarter = 0; quarter < quarterCount; quarter++) {
            d = fold(d, ordersAgainst(person, quarter));
        }
        return d;
    }

    private static long fold(long d, int x) {
        return d * DIGEST_FACTOR + x;
    }

    private static int oneIf(boolean so) {
        return so ? 1 : 0;
    }

    // ---- dusk and dawn

    private static int tideOf(int ofDay) {
        int r = ofDay % TIDE_CYCLE;
        if (r < TIDE_RISE) {
            return r / TIDE_STEP;
        }
        return (TIDE_CYCLE - 1 - r) / TIDE_STEP;
    }

    private int duskOf(int ofDay) {
        return DUSK + tideOf(ofDay) + duskShift;
    }

    private static int dawnOf(int ofDay) {
        return DAWN - tideOf(ofDay);
    }

    // ---- what orders do

    private boolean isInHours(int order, int time) {
        int ofDay = time / DAY;
        int atHalfHour = time % DAY;
        return atHalfHour >= duskOf(ofDay) - orderAhead[order]
                || atHalfHour < dawnOf(ofDay) + orderBehind[order];
    }

    private boolean isOnAt(int order, int time) {
        return orderInForce[order] && isInHours(order, time);
    }

    private boolean exempts(int order, int trade) {
        return (orderExempt[order] >> trade & 1) != 0;
    }

    private boolean bars(int order, int person, int quarter, int time) {
        return orderQuarter[order] == quarter
                && !exempts(order, personTrade[person])
                && orderInForce[order]
                && isInHours(order, time);
    }

    private boolean isFreeAt(int person, int quarter, int time) {
        for (int order = 0; order < orderCount; order++) {
            if (bars(order, person, quarter, time)) {
                return false;
            }
        }
        return true;
    }

    private int timesBegun(int order, int halfHours) {
        int begun = 0;
        boolean wasOn = isOnAt(order, now);
        for (int wait = 1; wait <= halfHours; wait++) {
            boolean on = isOnAt(order, now + wait);
            if (on && !wasOn) {
                begun++;
            }
            wasOn = on;
        }
        return begun;
    }

    // Only pairs with the order's own quarter can get free, and none is barred anew.
    private int pairsFreedBy(int order) {
        int quarter = orderQuarter[order];
        int freed = 0;
        for (int person = 0; person < personCount; person++) {
            if (missing(person, quarter, NONE) > 0 && missing(person, quarter, order) == 0) {
                freed++;
            }
        }
        return freed;
    }

    // ---- stamps and fines

    private static int stampPlace(int person, int colour) {
        return person * COLOURS + colour;
    }

    private boolean useStamp(int person, int colour) {
        int place = stampPlace(person, colour);
        if (personStamps[place] == 0) {
            return false;
        }
        personStamps[place]--;
        usedStamps[colour]++;
        return true;
    }

    private int fineOnce(int person) {
        personFined[person]++;
        int fine = FINE * personFined[person];
        personOwes[person] += fine;
        return fine;
    }

    /** The stamps that a person lacks now for a quarter, were the order "spared" lifted. */
    private int missing(int person, int quarter, int spared) {
        int sum = 0;
        for (int colour = 0; colour < COLOURS; colour++) {
            int needed = 0;
            for (int order = 0; order < orderCount; order++) {
                if (order != spared && orderColour[order] == colour
                        && bars(order, person, quarter, now)) {
                    needed++;
                }
            }
            sum += Math.max(0, needed - personStamps[stampPlace(person, colour)]);
        }
        return sum;
    }

    // ---- what the calls ask of their arguments

    private void requireQuarter(int quarter) {
        if (quarter < 0 || quarter >= quarterCount) {
            throw new IndexOutOfBoundsException("no such quarter");
        }
    }

    private void requireOrder(int order) {
        if (order < 0 || order >= orderCount) {
            throw new IndexOutOfBoundsException("no such order");
        }
    }

    private void requirePerson(int person) {
        if (person < 0 || person >= personCount) {
            throw new IndexOutOfBoundsException("no such person");
        }
    }

    private static void requireTrade(int trade) {
        if (trade < 0 || trade >= TRADES) {
            throw new IndexOutOfBoundsException("no such trade");
        }
    }

    private static void requireColour(int colour) {
        if (colour < 0 || colour >= COLOURS) {
            throw new IndexOutOfBoundsException("no such colour");
        }
    }

    private static void requireWithin(int x, int least, int most) {
        if (x < least || x > most) {
            throw new IllegalArgumentException("out of the range that is allowed");
        }
    }
}
