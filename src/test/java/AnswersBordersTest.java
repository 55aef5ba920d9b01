import java.util.function.LongSupplier;

/**
 * The borders that the document's sentences name, a method for each sentence: promises 7 and 13 to
 * 22. The sentence stands above its method.
 */
public final class AnswersBordersTest {
    private static final String[] OF_A_CLOSED_YEAR = {"shortfall", "madeUp", "covered", "surplus",
        "due", "bill", "makeUpLeft", "surplusLeft"};
    private static final int[] CLOSED = {0, 1, 2, 18, 19, 20};

    private AnswersBordersTest() {
    }

    public static void main(String[] args) {
        promise7AllYearsClosed();
        promise7ReturnsTheBill();
        promise13To20Year();
        promise13To20NotClosed();
        promise13To20ArgumentBeforeState();
        promise13Shortfall();
        promise14MadeUp();
        promise15Covered();
        promise16Surplus();
        promise17Due();
        promise18AsItWas();
        promise19LeftBehindTheLastClosedYear();
        promise19HasNotLapsed();
        promise20LeftBehindTheLastClosedYear();
        promise20HasNotLapsed();
        promise21NothingHasLapsed();
        promise21InClosedYears();
        promise21MakeUpGasOnly();
        promise21AllThatCanLapse();
        promise22NoYearClosed();
        promise22AllClosedYears();
        promise22LessAllBills();
        Checks.finish();
    }

    private static LongSupplier answer(MakeupGas x, String method, int year) {
        return switch (method) {
            case "shortfall" -> () -> x.shortfall(year);
            case "madeUp" -> () -> x.madeUp(year);
            case "covered" -> () -> x.covered(year);
            case "surplus" -> () -> x.surplus(year);
            case "due" -> () -> x.due(year);
            case "bill" -> () -> x.bill(year);
            case "makeUpLeft" -> () -> x.makeUpLeft(year);
            default -> () -> x.surplusLeft(year);
        };
    }

    private static void outcome(MakeupGas x, String method, int year, String due) {
        LongSupplier call = answer(x, method, year);
        String what = method + " of year " + year + ", closed: " + x.closed();
        Checks.equal(what, Checks.outcome(call::getAsLong), due);
    }

    /** "IllegalStateException if all years are closed" */
    private static void promise7AllYearsClosed() {
        MakeupGas x = Situations.closedYears(19);
        Checks.equal("19 are closed", x.close(), 2880000);
        Checks.stateRefused("20 are closed", x::close);
        Checks.stateRefused("and once more", x::close);
        Checks.equal("no more are closed", x.closed(), 20);
        Checks.equal("the last bill stays", x.bill(19), 2880000);
    }

    /** "Returns the bill.": of 0, above 0 and below it, from the first year to the last one. */
    private static void promise7ReturnsTheBill() {
        MakeupGas x = Situations.small(1, 1);
        x.excuse(0, 360);
        long before = 0;
        for (int year = 0; year < 20; year++) {
            int shortfallPrice = year % 3 == 1 ? 15 : 50;
            x.review(0, 2 * shortfallPrice);
            long due = 800L * year * shortfallPrice;
            Checks.equal("of year " + year, x.close(), due - before);
            Checks.equal("of year " + year + ", kept", x.bill(year), due - before);
            before = due;
        }
        Checks.equal("the first one", x.bill(0), 0);
        Checks.equal("the second one", x.bill(1), 12000);
        Checks.equal("the last one", x.bill(19), 19 * 12000 - 18 * 40000);
    }

    /** "year: 0 to 19" */
    private static void promise13To20Year() {
        for (String method : OF_A_CLOSED_YEAR) {
            for (int years : CLOSED) {
                MakeupGas x = Situations.closedYears(years);
                outcome(x, method, Integer.MIN_VALUE, "IllegalArgumentException");
                outcome(x, method, -1, "IllegalArgumentException");
                outcome(x, method, 20, "IllegalArgumentException");
                outcome(x, method, Integer.MAX_VALUE, "IllegalArgumentException");
            }
            MakeupGas all = Situations.closedYears(20);
            outcome(all, method, 0, "no exception");
            outcome(all, method, 19, "no exception");
        }
    }

    /** "IllegalStateException if it is not closed" */
    private static void promise13To20NotClosed() {
        for (String method : OF_A_CLOSED_YEAR) {
            for (int years : CLOSED) {
                MakeupGas x = Situations.closedYears(years);
                for (int year = 0; year < 20; year++) {
                    String due = year < years ? "no exception" : "IllegalStateException";
                    outcome(x, method, year, due);
                }
            }
            MakeupGas taken = new MakeupGas();
            taken.takeDaily(0, 359, 500);
            outcome(taken, method, 0, "IllegalStateException");
        }
    }

    /** "if both apply, IllegalArgumentException is thrown": year 20 isn't closed either. */
    private static void promise13To20ArgumentBeforeState() {
        for (String method : OF_A_CLOSED_YEAR) {
            MakeupGas x = new MakeupGas();
            outcome(x, method, 20, "IllegalArgumentException");
            outcome(x, method, Integer.MAX_VALUE, "IllegalArgumentException");
            outcome(x, method, -1, "IllegalArgumentException");
            outcome(x, method, 0, "IllegalStateException");
            outcome(x, method, 19, "IllegalStateException");
        }
    }

    /** "the shortfall of a closed year": none, one unit, and the whole least quantity. */
    private static void promise13Shortfall() {
        MakeupGas x = Situations.small(1, 1);
        Situations.closeWith(x, 800);
        Situations.closeWith(x, 799);
        Situations.closeWith(x, 0);
        Situations.closeUntil(x, 19, 1000);
        Situations.closeWith(x, 798);
        Checks.equal("none", x.shortfall(0), 0);
        Checks.equal("one unit", x.shortfall(1), 1);
        Checks.equal("all", x.shortfall(2), 800);
        Checks.equal("of the last year", x.shortfall(19), 2);
    }

    /** "how much make-up gas was taken": none, one unit, and all there is. */
    private static void promise14MadeUp() {
        MakeupGas x = Situations.small(5, 1);
        Situations.closeWith(x, 700);
        Situations.closeWith(x, 800);
        Situations.closeWith(x, 801);
        Situations.closeWith(x, 180000);
        Situations.closeUntil(x, 18, 1000);
        Situations.closeWith(x, 0);
        Situations.closeWith(x, 2000);
        Checks.equal("none in the first year", x.madeUp(0), 0);
        Checks.equal("none", x.madeUp(1), 0);
        Checks.equal("one unit", x.madeUp(2), 1);
        Checks.equal("all there is", x.madeUp(3), 99);
        Checks.equal("there is none", x.madeUp(4), 0);
        Checks.equal("in the last year", x.madeUp(19), 800);
    }

    /** "how much surplus made up for the gap": none, one unit, and all of it. */
    private static void promise15Covered() {
        MakeupGas x = Situations.small(5, 5);
        Situations.closeWith(x, 1801);
        Situations.closeWith(x, 800);
        Situations.closeWith(x, 799);
        Situations.closeWith(x, 0);
        Situations.closeWith(x, 0);
        Situations.closeUntil(x, 18, 800);
        Situations.closeWith(x, 1001);
        Situations.closeWith(x, 0);
        Checks.equal("none in the first year", x.covered(0), 0);
        Checks.equal("no gap", x.covered(1), 0);
        Checks.equal("one unit", x.covered(2), 1);
        Checks.equal("the whole least quantity", x.covered(3), 800);
        Checks.equal("there is none", x.covered(4), 0);
        Checks.equal("in the last year", x.covered(19), 1);
    }

    /** "how much surplus came from a closed year": none, one unit, all; used up or lapsed, too. */
    private static void promise16Surplus() {
        MakeupGas x = Situations.small(1, 1);
        Situations.closeWith(x, 1000);
        Situations.closeWith(x, 1001);
        Situations.closeWith(x, 0);
        Situations.closeWith(x, 180000);
        Situations.closeUntil(x, 19, 800);
        Situations.closeWith(x, 1002);
        Checks.equal("none", x.surplus(0), 0);
        Checks.equal("one unit, used up", x.surplus(1), 1);
        Checks.equal("none where there is a gap", x.surplus(2), 0);
        Checks.equal("all that can be, lapsed", x.surplus(3), 180000 - 799 - 1000);
        Checks.equal("of the last year", x.surplus(19), 2);
    }

    /** "what is due for a closed year": by what has been told so far, of the last year too. */
    private static void promise17Due() {
        MakeupGas x = Situations.small(1, 1);
        Situations.closeUntil(x, 20, 800);
        x.review(19, 1000);
        Checks.equal("the first year", x.due(0), 80000);
        Checks.equal("the last but one", x.due(18), 80000);
        Checks.equal("the last year", x.due(19), 800000);
        x.excuse(19, 360);
        Checks.equal("no shortfall comes of it", x.due(19), 800000);
        x.review(0, 1);
        Checks.equal("the first year", x.due(0), 800);
        Checks.equal("the last year", x.due(19), 800);
    }

    /** "as it was when the year was closed" */
    private static void promise18AsItWas() {
        MakeupGas x = Situations.small(1, 1);
        x.close();
        Checks.equal("when it was closed", x.bill(0), 40000);
        x.review(0, 200);
        Checks.equal("behind a review", x.bill(0), 40000);
        x.excuse(0, 360);
        Checks.equal("behind an excuse", x.bill(0), 40000);
        x.close();
        Checks.equal("behind the next close", x.bill(0), 40000);
        Checks.equal("which settles it", x.bill(1), 80000 - 40000);
        Situations.closeUntil(x, 20, 800);
        x.review(0, 1);
        x.excuse(19, 360);
        Checks.stateRefused("a refused close", x::close);
        Checks.equal("the first one", x.bill(0), 40000);
        Checks.equal("the second one", x.bill(1), 40000);
        Checks.equal("the last one", x.bill(19), 160000);
    }

    /** "left behind the last closed year" */
    private static void promise19LeftBehindTheLastClosedYear() {
        MakeupGas x = Situations.small(5, 5);
        Situations.closeWith(x, 700);
        Checks.equal("it is the last one", x.makeUpLeft(0), 100);
        x.takeDaily(0, 0, 500);
        x.takeDaily(1, 1, 399);
        Checks.equal("the year that goes on takes none", x.makeUpLeft(0), 100);
        x.close();
        Checks.equal("all but one unit is taken", x.makeUpLeft(0), 1);
        Situations.closeWith(x, 801);
        Checks.equal("all is taken", x.makeUpLeft(0), 0);
        Situations.closeUntil(x, 19, 800);
        x.close();
        Checks.equal("of the very last year", x.makeUpLeft(19), 800);
        Checks.equal("none came from it", x.makeUpLeft(18), 0);
    }

    /** "and has not lapsed in a closed year": it may lapse in the year that goes on. */
    private static void promise19HasNotLapsed() {
        MakeupGas x = Situations.small(1, 5);
        Situations.closeWith(x, 700);
        Situations.closeWith(x, 800);
        x.take(0, 1);
        Checks.equal("year 2 goes on", x.makeUpLeft(0), 100);
        x.close();
        Checks.equal("year 2 is closed", x.makeUpLeft(0), 0);
        Checks.equal("year 2's own", x.makeUpLeft(2), 799);

        MakeupGas last = Situations.small(5, 1);
        Situations.closeUntil(last, 14, 800);
        Situations.closeWith(last, 700);
        Situations.closeUntil(last, 20, 800);
        Checks.equal("kept to the very end", last.makeUpLeft(14), 100);
    }

    /** "left behind the last closed year" */
    private static void promise20LeftBehindTheLastClosedYear() {
        MakeupGas x = Situations.small(5, 5);
        Situations.closeWith(x, 1100);
        Checks.equal("it is the last one", x.surplusLeft(0), 100);
        x.take(0, 1);
        Checks.equal("the year that goes on draws none", x.surplusLeft(0), 100);
        x.take(0, 499);
        x.take(1, 201);
        x.close();
        Checks.equal("all but one unit is drawn", x.surplusLeft(0), 1);
        Situations.closeWith(x, 799);
        Checks.equal("all is drawn", x.surplusLeft(0), 0);
        Situations.closeUntil(x, 19, 1000);
        Situations.closeWith(x, 1001);
        Checks.equal("of the very last year", x.surplusLeft(19), 1);
        Checks.equal("none came from it", x.surplusLeft(18), 0);
    }

    /** "and has not lapsed in a closed year": it may lapse in the year that goes on. */
    private static void promise20HasNotLapsed() {
        MakeupGas x = Situations.small(5, 1);
        Situations.closeWith(x, 1100);
        Situations.closeWith(x, 800);
        x.take(0, 1);
        Checks.equal("year 2 goes on", x.surplusLeft(0), 100);
        x.close();
        Checks.equal("year 2 is closed", x.surplusLeft(0), 0);

        MakeupGas last = Situations.small(1, 5);
        Situations.closeUntil(last, 14, 800);
        Situations.closeWith(last, 1100);
        Situations.closeUntil(last, 20, 800);
        Checks.equal("kept to the very end", last.surplusLeft(14), 100);
    }

    /** "how much make-up gas has lapsed": nothing, before the first can. */
    private static void promise21NothingHasLapsed() {
        MakeupGas x = Situations.small(5, 1);
        Checks.equal("no year is closed", x.lapsed(), 0);
        for (int years = 1; years <= 6; years++) {
            x.close();
            Checks.equal("closed: " + years, x.lapsed(), 0);
        }
        x.close();
        Checks.equal("the first year's", x.lapsed(), 800);
        x.close();
        Checks.equal("and the second year's", x.lapsed(), 1600);
    }

    /** "in closed years" */
    private static void promise21InClosedYears() {
        MakeupGas x = Situations.small(1, 1);
        Situations.closeWith(x, 700);
        Situations.closeWith(x, 800);
        x.take(0, 500);
        x.take(1, 300);
        Checks.equal("year 2 goes on", x.lapsed(), 0);
        x.close();
        Checks.equal("year 2 is closed", x.lapsed(), 100);
        x.excuse(1, 45);
        Checks.equal("less what year 1 takes of it now", x.lapsed(), 0);
        x.excuse(1, 44);
        Checks.equal("a least of 702: 98 are taken", x.lapsed(), 2);
        Situations.closeUntil(x, 20, 800);
        Checks.equal("to the very end", x.lapsed(), 2);
    }

    /** "how much make-up gas": surplus lapses too, and isn't counted. */
    private static void promise21MakeUpGasOnly() {
        MakeupGas x = Situations.small(1, 1);
        Situations.closeUntil(x, 20, 1100);
        Checks.equal("surplus has lapsed", x.surplusLeft(17), 0);
        Checks.equal("but no make-up gas", x.lapsed(), 0);
    }

    /** The same where all that there can be lapses. */
    private static void promise21AllThatCanLapse() {
        MakeupGas x = new MakeupGas();
        x.set(100000, 100, 100, 1, 1);
        for (int years = 1; years <= 20; years++) {
            x.close();
            Checks.equal("closed: " + years, x.lapsed(), 100000 * Math.max(0, years - 2));
        }
    }

    /** "what is due for all closed years": 0, if there is none. */
    private static void promise22NoYearClosed() {
        MakeupGas x = new MakeupGas();
        Checks.equal("a new object", x.open(), 0);
        x.takeDaily(0, 359, 500);
        x.review(0, 1000);
        x.excuse(0, 360);
        Checks.equal("whatever is told", x.open(), 0);
    }

    /** The same with the first year, and with all 20 of them. */
    private static void promise22AllClosedYears() {
        for (int years : new int[] {1, 2, 19, 20}) {
            MakeupGas x = Situations.closedYears(years);
            Checks.equal("settled, closed: " + years, x.open(), 0);
            x.review(years - 1, 101);
            Checks.equal("the last one's", x.open(), 28800);
            x.review(0, 99);
            Checks.equal("all of them", x.open(), -28800 * years);
            x.review(0, 100);
            Checks.equal("just as before", x.open(), 0);
        }
    }

    /** "less all bills": above 0, 0 and below 0, and beyond all ints on both sides. */
    private static void promise22LessAllBills() {
        MakeupGas x = Situations.small(1, 1);
        Situations.closeWith(x, 1);
        x.excuse(0, 359);
        Checks.equal("a least of 2: one unit short", x.open(), 100 + 50 - (100 + 799 * 50));
        x.excuse(0, 360);
        Checks.equal("nothing short", x.open(), -799 * 50);
        x.excuse(0, 0);
        Checks.equal("as it was billed", x.open(), 0);

        MakeupGas low = new MakeupGas();
        low.review(0, 1);
        Situations.closeUntil(low, 20, 180000);
        low.review(0, 1000);
        Checks.equal("the highest", low.open(), 20L * 180000 * 999);
        MakeupGas high = new MakeupGas();
        high.review(0, 1000);
        Situations.closeUntil(high, 20, 180000);
        high.review(0, 1);
        Checks.equal("the lowest", high.open(), -20L * 180000 * 999);
    }
}
