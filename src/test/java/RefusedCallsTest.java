import java.util.function.Consumer;
import java.util.function.Supplier;

/**
 * "A call that throws changes nothing", each call that can be refused by itself: of two objects
 * that are told the same, one is also told the refused call, and both must answer the same then.
 */
public final class RefusedCallsTest {
    private static final int LOWEST = Integer.MIN_VALUE;
    private static final int HIGHEST = Integer.MAX_VALUE;

    private final String name;
    private final Supplier<MakeupGas> state;

    private RefusedCallsTest(String name, Supplier<MakeupGas> state) {
        this.name = name;
        this.state = state;
    }

    public static void main(String[] args) {
        aNewObject();
        aFullDayOfTheFirstYear();
        aClosedYearAndNothingTaken();
        someYearsAndSomeDays();
        theLastYearFull();
        allYearsClosed();
        Checks.finish();
    }

    private static void aNewObject() {
        RefusedCallsTest test = new RefusedCallsTest("new", MakeupGas::new);
        test.argumentsOutOfRange();
        test.closedYearsFrom(0);
    }

    private static void aFullDayOfTheFirstYear() {
        RefusedCallsTest test = new RefusedCallsTest("full day", () -> {
            MakeupGas x = new MakeupGas();
            x.take(7, 500);
            return x;
        });
        test.argumentsOutOfRange();
        test.closedYearsFrom(0);
        test.contractInUse();
        test.fullDay(7);
    }

    private static void aClosedYearAndNothingTaken() {
        RefusedCallsTest test = new RefusedCallsTest("one year", () -> Situations.closedYears(1));
        test.argumentsOutOfRange();
        test.closedYearsFrom(1);
        test.contractInUse();
    }

    private static void someYearsAndSomeDays() {
        RefusedCallsTest test = new RefusedCallsTest("some years", () -> {
            MakeupGas x = Situations.small(2, 3);
            x.excuse(1, 7);
            x.excuse(9, 99);
            Situations.closeWith(x, 300);
            Situations.closeWith(x, 1200);
            Situations.closeWith(x, 1900);
            Situations.closeWith(x, 500);
            x.review(2, 120);
            x.takeDaily(0, 359, 2);
            x.take(100, 498);
            return x;
        });
        test.argumentsOutOfRange();
        test.closedYearsFrom(4);
        test.contractInUse();
        test.fullDay(100);
    }

    private static void theLastYearFull() {
        RefusedCallsTest test = new RefusedCallsTest("last year", () -> {
            MakeupGas x = Situations.closedYears(19);
            x.review(0, 90);
            x.takeDaily(0, 359, 500);
            return x;
        });
        test.argumentsOutOfRange();
        test.closedYearsFrom(19);
        test.contractInUse();
        test.fullDay(0);
        test.fullDay(359);
    }

    private static void allYearsClosed() {
        RefusedCallsTest test = new RefusedCallsTest("all years", () -> {
            MakeupGas x = Situations.small(2, 2);
            for (int year = 0; year < 20; year++) {
                Situations.closeWith(x, 500 + 321 * year % 1000);
            }
            x.excuse(4, 100);
            x.review(17, 90);
            return x;
        });
        test.argumentsOutOfRange();
        test.contractInUse();
        test.stateRefused("take", x -> x.take(0, 1));
        test.stateRefused("take the most", x -> x.take(359, 500));
        test.stateRefused("takeDaily", x -> x.takeDaily(0, 0, 1));
        test.stateRefused("takeDaily the most", x -> x.takeDaily(0, 359, 500));
        test.stateRefused("close", MakeupGas::close);
    }

    /** These are refused in every state, also where the state alone would refuse the call. */
    private void argumentsOutOfRange() {
        setOutOfRange();
        reviewAndExcuseOutOfRange();
        takesOutOfRange();
        yearsOutOfRange();
    }

    private void setOutOfRange() {
        for (int quantity : new int[] {LOWEST, -1, 0, 100001, HIGHEST}) {
            argumentRefused("set quantity " + quantity, x -> x.set(quantity, 7, 7, 4, 4));
        }
        for (int percent : new int[] {LOWEST, -1, 101, HIGHEST}) {
            argumentRefused("set least " + percent, x -> x.set(77, percent, 7, 4, 4));
            argumentRefused("set share " + percent, x -> x.set(77, 7, percent, 4, 4));
        }
        for (int years : new int[] {LOWEST, -1, 0, 6, HIGHEST}) {
            argumentRefused("set makeUpYears " + years, x -> x.set(77, 7, 7, years, 4));
            argumentRefused("set surplusYears " + years, x -> x.set(77, 7, 7, 4, years));
        }
    }

    private void reviewAndExcuseOutOfRange() {
        for (int year : new int[] {LOWEST, -1, 20, HIGHEST}) {
            argumentRefused("review of year " + year, x -> x.review(year, 77));
            argumentRefused("excuse of year " + year, x -> x.excuse(year, 77));
        }
        for (int price : new int[] {LOWEST, -1, 0, 1001, HIGHEST}) {
            argumentRefused("review to " + price, x -> x.review(0, price));
            argumentRefused("review of the last year to " + price, x -> x.review(19, price));
        }
        for (int days : new int[] {LOWEST, -1, 361, HIGHEST}) {
            argumentRefused("excuse of " + days, x -> x.excuse(0, days));
            argumentRefused("excuse in the last year of " + days, x -> x.excuse(19, days));
        }
    }

    private void takesOutOfRange() {
        for (int day : new int[] {LOWEST, -1, 360, HIGHEST}) {
            argumentRefused("take on day " + day, x -> x.take(day, 1));
            argumentRefused("takeDaily from day " + day, x -> x.takeDaily(day, 359, 1));
            argumentRefused("takeDaily on day " + day, x -> x.takeDaily(day, day, 1));
            argumentRefused("takeDaily to day " + day, x -> x.takeDaily(0, day, 1));
            argumentRefused("takenFrom day " + day, x -> x.takenFrom(day, 359));
            argumentRefused("takenFrom 0 to day " + day, x -> x.takenFrom(0, day));
        }
        for (int quantity : new int[] {LOWEST, -1, 0, 501, HIGHEST}) {
            argumentRefused("take of " + quantity, x -> x.take(7, quantity));
            argumentRefused("takeDaily of " + quantity, x -> x.takeDaily(0, 359, quantity));
        }
        argumentRefused("takeDaily backwards", x -> x.takeDaily(1, 0, 1));
        argumentRefused("takeDaily backwards at the end", x -> x.takeDaily(359, 358, 1));
        argumentRefused("takenFrom backwards", x -> x.takenFrom(1, 0));
        argumentRefused("takenFrom backwards at the end", x -> x.takenFrom(359, 358));
    }

    private void yearsOutOfRange() {
        for (int year : new int[] {LOWEST, -1, 20, HIGHEST}) {
            argumentRefused("taken in year " + year, x -> x.taken(year));
            argumentRefused("price of year " + year, x -> x.price(year));
            argumentRefused("least of year " + year, x -> x.least(year));
            argumentRefused("shortfall of year " + year, x -> x.shortfall(year));
            argumentRefused("madeUp of year " + year, x -> x.madeUp(year));
            argumentRefused("covered of year " + year, x -> x.covered(year));
            argumentRefused("surplus of year " + year, x -> x.surplus(year));
            argumentRefused("due of year " + year, x -> x.due(year));
            argumentRefused("bill of year " + year, x -> x.bill(year));
            argumentRefused("makeUpLeft of year " + year, x -> x.makeUpLeft(year));
            argumentRefused("surplusLeft of year " + year, x -> x.surplusLeft(year));
        }
    }

    /** The first year that is not closed, and the last year. */
    private void closedYearsFrom(int first) {
        for (int year : new int[] {first, 19}) {
            stateRefused("shortfall of year " + year, x -> x.shortfall(year));
            stateRefused("madeUp of year " + year, x -> x.madeUp(year));
            stateRefused("covered of year " + year, x -> x.covered(year));
            stateRefused("surplus of year " + year, x -> x.surplus(year));
            stateRefused("due of year " + year, x -> x.due(year));
            stateRefused("bill of year " + year, x -> x.bill(year));
            stateRefused("makeUpLeft of year " + year, x -> x.makeUpLeft(year));
            stateRefused("surplusLeft of year " + year, x -> x.surplusLeft(year));
        }
    }

    /** Each argument told by itself, too: the others are those of the first contract. */
    private void contractInUse() {
        stateRefused("set the lowest", x -> x.set(1, 0, 0, 1, 1));
        stateRefused("set the highest", x -> x.set(100000, 100, 100, 5, 5));
        stateRefused("set the quantity", x -> x.set(35000, 80, 100, 3, 2));
        stateRefused("set the least part", x -> x.set(36000, 79, 100, 3, 2));
        stateRefused("set the share", x -> x.set(36000, 80, 99, 3, 2));
        stateRefused("set makeUpYears", x -> x.set(36000, 80, 100, 4, 2));
        stateRefused("set surplusYears", x -> x.set(36000, 80, 100, 3, 3));
        stateRefused("set the first contract", x -> x.set(36000, 80, 100, 3, 2));
    }

    private void fullDay(int day) {
        stateRefused("take one unit more", x -> x.take(day, 1));
        stateRefused("take 500 more", x -> x.take(day, 500));
        stateRefused("takeDaily on all days", x -> x.takeDaily(0, 359, 1));
        stateRefused("takeDaily on this day", x -> x.takeDaily(day, day, 500));
        stateRefused("takeDaily up to this day", x -> x.takeDaily(0, day, 1));
        stateRefused("takeDaily from this day on", x -> x.takeDaily(day, 359, 1));
    }

    private void argumentRefused(String what, Consumer<MakeupGas> call) {
        refused(what, call, "IllegalArgumentException");
    }

    private void stateRefused(String what, Consumer<MakeupGas> call) {
        refused(what, call, "IllegalStateException");
    }

    /** Made three times, as one object may be asked only 512 times. */
    private void refused(String what, Consumer<MakeupGas> call, String exception) {
        String told = name + ": " + what;
        MakeupGas asked = state.get();
        Checks.equal(told, Checks.outcome(() -> call.accept(asked)), exception);
        Checks.equal(told + ": answers", Face.answers(asked), Face.answers(state.get()));

        MakeupGas askedOfDays = state.get();
        Checks.equal(told, Checks.outcome(() -> call.accept(askedOfDays)), exception);
        Checks.equal(told + ": days", Face.days(askedOfDays), Face.days(state.get()));

        MakeupGas gone = state.get();
        Checks.equal(told, Checks.outcome(() -> call.accept(gone)), exception);
        Checks.equal(told + ": later answers", answersOfLaterYears(gone),
                answersOfLaterYears(state.get()));
    }

    /** What the contract and the excused days are shows in what comes of later years. */
    private static String answersOfLaterYears(MakeupGas x) {
        if (x.closed() < 20) {
            x.close();
        }
        if (x.closed() < 20) {
            Situations.closeWith(x, 180000);
        }
        Situations.closeUntil(x, 20, 0);
        StringBuilder text = new StringBuilder();
        for (int year = 0; year < 20; year++) {
            text.append(x.excuse(year, 5 * year)).append(' ');
        }
        x.review(0, 101);
        return text.append(Face.answers(x)).toString();
    }
}
