import java.util.Arrays;

/**
 * A take-or-pay contract for gas: a yearly quantity and the least part of it that is paid for in
 * any case, shortfalls that are taken later as make-up gas, surplus that lowers the least of later
 * years, excused days, and prices that are reviewed with effect from the past.
 */
public final class MakeupGas {
    private static final int YEARS = 20;
    private static final int DAYS = 360;
    private static final int MOST_ON_A_DAY = 500;
    private static final int MOST_YEARLY_QUANTITY = 100000;
    private static final int MOST_YEARS_KEPT = 5;
    private static final int MOST_PRICE = 1000;
    private static final int PERCENT = 100;

    private static final int FIRST_YEARLY_QUANTITY = 36000;
    private static final int FIRST_LEAST_PERCENT = 80;
    private static final int FIRST_SHORTFALL_PERCENT = 100;
    private static final int FIRST_MAKE_UP_YEARS = 3;
    private static final int FIRST_SURPLUS_YEARS = 2;
    private static final int FIRST_PRICE = 100;

    private int yearlyQuantity;
    private int leastPercent;
    private int shortfallPercent;
    private final int[] pricePerYear;
    private final int[] excusedDays;

    private int closedYears;
    private final int[] takenPerDay;
    private final int[] takenPerYear;

    private final Stock makeUpStock;
    private final Stock surplusStock;

    private final int[] shortfallPerYear;
    private final int[] madeUpPerYear;
    private final int[] coveredPerYear;
    private final int[] surplusPerYear;
    private final long[] duePerYear;

    private final long[] billPerYear;
    private long billedInAll;

    public MakeupGas() {
        yearlyQuantity = FIRST_YEARLY_QUANTITY;
        leastPercent = FIRST_LEAST_PERCENT;
        shortfallPercent = FIRST_SHORTFALL_PERCENT;
        pricePerYear = new int[YEARS];
        Arrays.fill(pricePerYear, FIRST_PRICE);
        excusedDays = new int[YEARS];
        takenPerDay = new int[DAYS];
        takenPerYear = new int[YEARS];
        makeUpStock = new Stock(FIRST_MAKE_UP_YEARS);
        surplusStock = new Stock(FIRST_SURPLUS_YEARS);
        shortfallPerYear = new int[YEARS];
        madeUpPerYear = new int[YEARS];
        coveredPerYear = new int[YEARS];
        surplusPerYear = new int[YEARS];
        duePerYear = new long[YEARS];
        billPerYear = new long[YEARS];
    }

    // ---- contract

    public void set(int quantity, int least, int share, int makeUpYears, int surplusYears)
            throws IllegalArgumentException, IllegalStateException {
        requireRange(quantity, 1, MOST_YEARLY_QUANTITY);
        requireRange(least, 0, PERCENT);
        requireRange(share, 0, PERCENT);
        requireRange(makeUpYears, 1, MOST_YEARS_KEPT);
        requireRange(surplusYears, 1, MOST_YEARS_KEPT);
        requireUnused();
        yearlyQuantity = quantity;
        leastPercent = least;
        shortfallPercent = share;
        makeUpStock.keepFor(makeUpYears);
        surplusStock.keepFor(surplusYears);
    }

    public int review(int year, int price) throws IllegalArgumentException {
        requireYear(year);
        requireRange(price, 1, MOST_PRICE);
        int before = pricePerYear[year];
        for (int later = year; later < YEARS; later++) {
            pricePerYear[later] = price;
        }
        settleClosedYears();
        return before;
    }

    public int excuse(int year, int days) throws IllegalArgumentException {
        requireYear(year);
        requireRange(days, 0, DAYS);
        int before = excusedDays[year];
        excusedDays[year] = days;
        settleClosedYears();
        return before;
    }

    // ---- takes and years

    public int take(int day, int quantity) throws IllegalArgumentException, IllegalStateException {
        requireDay(day);
        requireRange(quantity, 1, MOST_ON_A_DAY);
        requireYearGoingOn();
        requireRoom(day, day, quantity);
        addTakes(day, day, quantity);
        return takenPerDay[day];
    }

    public int takeDaily(int from, int to, int quantity)
            throws IllegalArgumentException, IllegalStateException {
        requireDays(from, to);
        requireRange(quantity, 1, MOST_ON_A_DAY);
        requireYearGoingOn();
        requireRoom(from, to, quantity);
        addTakes(from, to, quantity);
        return takenPerYear[closedYears];
    }

    public long close() throws IllegalStateException {
        requireYearGoingOn();
        int year = closedYears;
        closedYears = year + 1;
        Arrays.fill(takenPerDay, 0);
        settleClosedYears();
        long newBill = dueInAll() - billedInAll;
        billPerYear[year] = newBill;
        billedInAll += newBill;
        return newBill;
    }

    public int closed() {
        return closedYears;
    }

    public int taken(int year) throws IllegalArgumentException {
        requireYear(year);
        return takenPerYear[year];
    }

    public int takenFrom(int from, int to) throws IllegalArgumentException {
        requireDays(from, to);
        int sum = 0;
        for (int day = from; day <= to; day++) {
            sum += takenPerDay[day];
        }
        return sum;
    }

    public int price(int year) throws IllegalArgumentException {
        requireYear(year);
        return pricePerYear[year];
    }

    public int least(int year) throws IllegalArgumentException {
        requireYear(year);
        return leastQuantity(year);
    }

    // ---- closed years, by what has been told so far

    public int shortfall(int year) throws IllegalArgumentException, IllegalStateException {
        requireClosedYear(year);
        return shortfallPerYear[year];
    }

    public int madeUp(int year) throws IllegalArgumentException, IllegalStateException {
        requireClosedYear(year);
        return madeUpPerYear[year];
    }

    public int covered(int year) throws IllegalArgumentException, IllegalStateException {
        requireClosedYear(year);
        return coveredPerYear[year];
    }

    public int surplus(int year) throws IllegalArgumentException, IllegalStateException {
        requireClosedYear(year);
        return surplusPerYear[year];
    }

    public long due(int year) throws IllegalArgumentException, IllegalStateException {
        requireClosedYear(year);
        return duePerYear[year];
    }

    public long bill(int year) throws IllegalArgumentException, IllegalStateException {
        requireClosedYear(year);
        return billPerYear[year];
    }

    public int makeUpLeft(int year) throws IllegalArgumentException, IllegalStateException {
        requireClosedYear(year);
        return makeUpStock.leftFrom(year);
    }

    public int surplusLeft(int year) throws IllegalArgumentException, IllegalStateException {
        requireClosedYear(year);
        return surplusStock.leftFrom(year);
    }

    public int lapsed() {
        return makeUpStock.lapsedInAll();
    }

    public long open() {
        return dueInAll() - billedInAll;
    }

    // ---- what a call must fulfil; arguments are always tested before the state

    private static void requireRange(int value, int lowest, int highest) {
        if (value < lowest || value > highest) {
            throw new IllegalArgumentException("an argument is out of range");
        }
    }

    private static void requireYear(int year) {
        requireRange(year, 0, YEARS - 1);
    }

    private static void requireDay(int day) {
        requireRange(day, 0, DAYS - 1);
    }

    private static void requireDays(int from, int to) {
        requireDay(from);
        requireRange(to, from, DAYS - 1);
    }

    private void requireClosedYear(int year) {
        requireYear(year);
        if (year >= closedYears) {
            throw new IllegalStateException("the year is not closed");
        }
    }

    private void requireYearGoingOn() {
        if (closedYears >= YEARS) {
            throw new IllegalStateException("all years are closed");
        }
    }

    private void requireUnused() {
        if (closedYears > 0 || takenPerYear[0] > 0) {
            throw new IllegalStateException("something was taken, or a year is closed");
        }
    }

    private void requireRoom(int from, int to, int quantity) {
        for (int day = from; day <= to; day++) {
            if (takenPerDay[day] + quantity > MOST_ON_A_DAY) {
                throw new IllegalStateException("too much would be taken on a day");
            }
        }
    }

    // ---- takes and prices

    private void addTakes(int from, int to, int quantity) {
        for (int day = from; day <= to; day++) {
            takenPerDay[day] += quantity;
        }
        takenPerYear[closedYears] += quantity * (to - from + 1);
    }

    private int leastQuantity(int year) {
        // In ints the product would overflow.
        long product = (long) yearlyQuantity * leastPercent * (DAYS - excusedDays[year]);
        return (int) (product / (PERCENT * DAYS));
    }

    private int shortfallPrice(int year) {
        return pricePerYear[year] * shortfallPercent / PERCENT;
    }

    // ---- settling

    /** Excuses and reviews can come late, so every year is found anew from the first one on. */
    private void settleClosedYears() {
        makeUpStock.empty();
        surplusStock.empty();
        for (int year = 0; year < closedYears; year++) {
            makeUpStock.lapseBefore(year);
            surplusStock.lapseBefore(year);
            if (takenPerYear[year] < leastQuantity(year)) {
                settleGap(year);
            } else {
                settleEnough(year);
            }
        }
    }

    private void settleGap(int year) {
        int gap = leastQuantity(year) - takenPerYear[year];
        int covering = drawSurplus(year, gap);
        int missing = gap - covering;
        makeUpStock.put(year, missing);
        coveredPerYear[year] = covering;
        shortfallPerYear[year] = missing;
        madeUpPerYear[year] = 0;
        surplusPerYear[year] = 0;
        duePerYear[year] = (long) takenPerYear[year] * pricePerYear[year]
                + (long) missing * shortfallPrice(year);
    }

    private int drawSurplus(int year, int wanted) {
        int drawn = 0;
        for (int origin = 0; origin < year; origin++) {
            drawn += surplusStock.drawFrom(origin, wanted - drawn);
        }
        return drawn;
    }

    private void settleEnough(int year) {
        int aboveLeast = takenPerYear[year] - leastQuantity(year);
        int makeUp = 0;
        long addedToPaid = 0;
        for (int origin = 0; origin < year; origin++) {
            int part = makeUpStock.drawFrom(origin, aboveLeast - makeUp);
            makeUp += part;
            // Make-up gas was paid at its own year's shortfall price; only a dearer year adds to it.
            addedToPaid += (long) part * Math.max(0, pricePerYear[year] - shortfallPrice(origin));
        }
        int ordinary = takenPerYear[year] - makeUp;
        int above = Math.max(0, ordinary - yearlyQuantity);
        surplusStock.put(year, above);
        coveredPerYear[year] = 0;
        shortfallPerYear[year] = 0;
        madeUpPerYear[year] = makeUp;
        surplusPerYear[year] = above;
        duePerYear[year] = (long) ordinary * pricePerYear[year] + addedToPaid;
    }

    private long dueInAll() {
        long sum = 0;
        for (int year = 0; year < closedYears; year++) {
            sum += duePerYear[year];
        }
        return sum;
    }

    /** Gas that is kept by the year from which it came: make-up gas, or surplus. */
    private static final class Stock {
        private final int[] left = new int[YEARS];
        private int yearsKept;
        private int lapsedSum;

        Stock(int yearsKept) {
            this.yearsKept = yearsKept;
        }

        void keepFor(int years) {
            yearsKept = years;
        }

        void empty() {
            Arrays.fill(left, 0);
            lapsedSum = 0;
        }

        /** What lapses before the year is used; earlier years' gas lapsed before earlier years. */
        void lapseBefore(int year) {
            int origin = year - yearsKept - 1;
            if (origin >= 0 && origin < YEARS) {
                lapsedSum += left[origin];
                left[origin] = 0;
            }
        }

        void put(int origin, int quantity) {
            left[origin] = quantity;
        }

        int drawFrom(int origin, int wanted) {
            int drawn = Math.min(wanted, left[origin]);
            left[origin] -= drawn;
            return drawn;
        }

        int leftFrom(int origin) {
            return left[origin];
        }

        int lapsedInAll() {
            return lapsedSum;
        }
    }
}
