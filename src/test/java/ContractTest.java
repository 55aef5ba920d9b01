/** Promises 1 to 4, 11 and 12: a new object, set, review, excuse, price, least. */
public final class ContractTest {
    private static final int LOWEST = Integer.MIN_VALUE;
    private static final int HIGHEST = Integer.MAX_VALUE;

    private ContractTest() {
    }

    public static void main(String[] args) {
        promise1NewObjectAnswers();
        promise1FirstContractInUse();
        promise1ObjectsAreApart();
        promise2SetTakesTheWholeContract();
        promise2SetKeepsPricesAndExcuses();
        promise2SetOutOfRange();
        promise2SetTooLate();
        promise3Review();
        promise3ReviewOfClosedYears();
        promise3ReviewOutOfRange();
        promise4Excuse();
        promise4ExcuseOfClosedYears();
        promise4ExcuseOutOfRange();
        promise11Price();
        promise12Least();
        Checks.finish();
    }

    private static void promise1NewObjectAnswers() {
        MakeupGas x = new MakeupGas();
        Checks.equal("closed of a new object", x.closed(), 0);
        Checks.equal("takenFrom of a new object", x.takenFrom(0, 359), 0);
        Checks.equal("lapsed of a new object", x.lapsed(), 0);
        Checks.equal("open of a new object", x.open(), 0);
        for (int year = 0; year < 20; year++) {
            Checks.equal("taken of a new object", x.taken(year), 0);
            Checks.equal("price of a new object", x.price(year), 100);
            Checks.equal("least of a new object", x.least(year), 28800);
            Checks.equal("excuse of a new object", x.excuse(year, 0), 0);
        }
        Checks.stateRefused("year 0 of a new object is not closed", () -> x.due(0));
        Checks.equal("take in a new object", x.take(0, 1), 1);
        Checks.equal("that is year 0", x.taken(0), 1);
    }

    private static void promise1FirstContractInUse() {
        MakeupGas shortOfGas = new MakeupGas();
        Checks.equal("share of 100 percent at first", shortOfGas.close(), 2880000);
        shortOfGas.takeDaily(0, 359, 80);
        shortOfGas.close();
        shortOfGas.takeDaily(0, 359, 80);
        shortOfGas.close();
        shortOfGas.takeDaily(0, 359, 81);
        shortOfGas.close();
        Checks.equal("make-up gas is kept for 3 years at first", shortOfGas.madeUp(3), 360);
        shortOfGas.takeDaily(0, 359, 81);
        shortOfGas.close();
        Checks.equal("and not for 4", shortOfGas.madeUp(4), 0);

        MakeupGas rich = new MakeupGas();
        rich.takeDaily(0, 359, 500);
        rich.close();
        Checks.equal("yearly quantity of 36000 at first", rich.surplus(0), 144000);
        rich.close();
        rich.close();
        Checks.equal("surplus is kept for 2 years at first", rich.covered(2), 28800);
        rich.close();
        Checks.equal("and not for 3", rich.covered(3), 0);
    }

    private static void promise1ObjectsAreApart() {
        MakeupGas told = new MakeupGas();
        told.set(1, 1, 1, 1, 1);
        told.review(0, 1);
        told.excuse(0, 1);
        told.take(0, 1);
        told.close();
        MakeupGas fresh = new MakeupGas();
        Checks.equal("another object's least", fresh.least(0), 28800);
        Checks.equal("another object's price", fresh.price(0), 100);
        Checks.equal("another object's takes", fresh.taken(0), 0);
        Checks.equal("another object's years", fresh.closed(), 0);
    }

    private static void promise2SetTakesTheWholeContract() {
        MakeupGas x = new MakeupGas();
        x.set(1, 0, 0, 1, 1);
        Checks.equal("the lowest arguments", x.least(0), 0);
        x.set(100000, 100, 100, 5, 5);
        Checks.equal("the highest arguments", x.least(0), 100000);
        x.set(1000, 90, 33, 1, 2);
        Checks.equal("set again", x.least(19), 900);
        x.review(0, 101);
        Checks.equal("share of 33 percent of 101, rounded down", x.close(), 900 * 33);
        x.take(0, 500);
        x.take(1, 500);
        x.close();
        Checks.equal("make-up gas kept for the year told", x.madeUp(1), 100);
        x.close();
        Checks.equal("and no longer", x.lapsed(), 800);

        MakeupGas y = new MakeupGas();
        y.set(100, 100, 100, 5, 4);
        y.take(0, 500);
        y.close();
        y.close();
        y.close();
        y.close();
        y.close();
        y.close();
        Checks.equal("surplus of 400 above the quantity told", y.surplus(0), 400);
        Checks.equal("surplus kept for 4 years", y.covered(4), 100);
        Checks.equal("surplus not kept for 5 years", y.covered(5), 0);
    }

    private static void promise2SetKeepsPricesAndExcuses() {
        MakeupGas x = new MakeupGas();
        x.review(3, 7);
        x.excuse(2, 180);
        x.set(1000, 50, 50, 1, 1);
        Checks.equal("a price told before set", x.price(3), 7);
        Checks.equal("days excused before set", x.least(2), 250);
        Checks.equal("they are the days told", x.excuse(2, 0), 180);
    }

    private static void promise2SetOutOfRange() {
        MakeupGas x = new MakeupGas();
        for (int quantity : new int[] {LOWEST, -1, 0, 100001, HIGHEST}) {
            Checks.argumentRefused("set quantity " + quantity, () -> x.set(quantity, 0, 0, 1, 1));
        }
        for (int percent : new int[] {LOWEST, -1, 101, HIGHEST}) {
            Checks.argumentRefused("set least " + percent, () -> x.set(1, percent, 0, 1, 1));
            Checks.argumentRefused("set share " + percent, () -> x.set(1, 0, percent, 1, 1));
        }
        for (int years : new int[] {LOWEST, -1, 0, 6, HIGHEST}) {
            Checks.argumentRefused("set makeUpYears " + years, () -> x.set(1, 0, 0, years, 1));
            Checks.argumentRefused("set surplusYears " + years, () -> x.set(1, 0, 0, 1, years));
        }
        Checks.equal("a refused set changes nothing", x.least(0), 28800);
    }

    private static void promise2SetTooLate() {
        MakeupGas taken = new MakeupGas();
        taken.take(359, 1);
        Checks.stateRefused("set when something was taken", () -> taken.set(1, 0, 0, 1, 1));
        Checks.argumentRefused("the argument first", () -> taken.set(1, 0, 0, 1, 6));
        taken.close();
        Checks.stateRefused("set after a year with takes", () -> taken.set(1, 0, 0, 1, 1));

        MakeupGas closed = new MakeupGas();
        closed.close();
        Checks.stateRefused("set when a year is closed", () -> closed.set(1, 0, 0, 1, 1));
        Checks.argumentRefused("the argument first", () -> closed.set(0, 0, 0, 1, 1));
        Checks.equal("a refused set changes nothing", closed.least(0), 28800);

        MakeupGas refused = new MakeupGas();
        Checks.argumentRefused("a take out of range", () -> refused.take(0, 501));
        refused.set(1000, 50, 0, 1, 1);
        Checks.equal("set after a refused take", refused.least(0), 500);
    }

    private static void promise3Review() {
        MakeupGas x = new MakeupGas();
        Checks.equal("review answers the price until then", x.review(5, 7), 100);
        Checks.equal("an earlier year's price", x.price(4), 100);
        Checks.equal("the year's price", x.price(5), 7);
        Checks.equal("a later year's price", x.price(6), 7);
        Checks.equal("the last year's price", x.price(19), 7);
        Checks.equal("review of a later year", x.review(10, 1000), 7);
        Checks.equal("review of the last year", x.review(19, 1), 1000);
        Checks.equal("a year between", x.price(9), 7);
        Checks.equal("a year between", x.price(18), 1000);
        Checks.equal("review of an earlier year", x.review(3, 50), 100);
        Checks.equal("it is this price in all later years", x.price(5), 50);
        Checks.equal("it is this price in all later years", x.price(10), 50);
        Checks.equal("it is this price in all later years", x.price(19), 50);
        Checks.equal("review of the first year", x.review(0, 1), 100);
        Checks.equal("review again", x.review(0, 2), 1);
    }

    private static void promise3ReviewOfClosedYears() {
        MakeupGas x = new MakeupGas();
        x.set(1000, 80, 50, 3, 2);
        x.take(0, 500);
        Checks.equal("500 units and a shortfall of 300 at half the price", x.close(), 65000);
        x.take(0, 500);
        x.take(1, 400);
        Checks.equal("800 units, 100 of make-up gas at the other half", x.close(), 85000);
        x.review(0, 200);
        Checks.equal("the shortfall price is reviewed too", x.due(0), 130000);
        Checks.equal("so is the make-up gas", x.due(1), 170000);
        Checks.equal("the bill stays", x.bill(0), 65000);
        Checks.equal("the difference is open", x.open(), 150000);
        x.review(1, 90);
        Checks.equal("a price below the shortfall price adds nothing", x.due(1), 72000);
        Checks.equal("an earlier year stays", x.due(0), 130000);
    }

    private static void promise3ReviewOutOfRange() {
        MakeupGas x = new MakeupGas();
        for (int year : new int[] {LOWEST, -1, 20, HIGHEST}) {
            Checks.argumentRefused("review year " + year, () -> x.review(year, 1));
        }
        for (int price : new int[] {LOWEST, -1, 0, 1001, HIGHEST}) {
            Checks.argumentRefused("review price " + price, () -> x.review(0, price));
        }
        Checks.equal("a refused review changes nothing", x.price(0), 100);
        Checks.equal("a refused review changes nothing", x.price(19), 100);
    }

    private static void promise4Excuse() {
        MakeupGas x = new MakeupGas();
        Checks.equal("excuse answers the days before", x.excuse(3, 90), 0);
        Checks.equal("a quarter of the year", x.least(3), 21600);
        Checks.equal("other years stay", x.least(2), 28800);
        Checks.equal("other years stay", x.least(4), 28800);
        Checks.equal("the days are set, not added", x.excuse(3, 180), 90);
        Checks.equal("half of the year", x.least(3), 14400);
        Checks.equal("all days", x.excuse(3, 360), 180);
        Checks.equal("nothing is left", x.least(3), 0);
        Checks.equal("no days again", x.excuse(3, 0), 360);
        Checks.equal("the whole least quantity", x.least(3), 28800);
        Checks.equal("the first year", x.excuse(0, 1), 0);
        Checks.equal("the last year", x.excuse(19, 1), 0);
        Checks.equal("one day less", x.least(19), 28720);
    }

    private static void promise4ExcuseOfClosedYears() {
        MakeupGas x = new MakeupGas();
        x.close();
        x.takeDaily(0, 359, 100);
        x.close();
        Checks.equal("make-up gas before the excuse", x.madeUp(1), 7200);
        x.excuse(0, 330);
        Checks.equal("the shortfall is found anew", x.shortfall(0), 2400);
        Checks.equal("and the make-up gas taken later", x.madeUp(1), 2400);
        Checks.equal("nothing is left", x.makeUpLeft(0), 0);
        Checks.equal("the bill stays", x.bill(0), 2880000);
        Checks.equal("the difference is open", x.open(), 240000 + 3360000 - 2880000 - 2880000);
    }

    private static void promise4ExcuseOutOfRange() {
        MakeupGas x = new MakeupGas();
        for (int year : new int[] {LOWEST, -1, 20, HIGHEST}) {
            Checks.argumentRefused("excuse year " + year, () -> x.excuse(year, 1));
        }
        for (int days : new int[] {LOWEST, -1, 361, HIGHEST}) {
            Checks.argumentRefused("excuse days " + days, () -> x.excuse(0, days));
        }
        Checks.equal("a refused excuse changes nothing", x.excuse(0, 0), 0);
    }

    private static void promise11Price() {
        MakeupGas x = new MakeupGas();
        x.review(19, 3);
        x.close();
        Checks.equal("a closed year's price", x.price(0), 100);
        Checks.equal("the last year's price", x.price(19), 3);
        for (int year : new int[] {LOWEST, -1, 20, HIGHEST}) {
            Checks.argumentRefused("price of " + year, () -> x.price(year));
        }
    }

    private static void promise12Least() {
        MakeupGas x = new MakeupGas();
        x.set(7, 80, 0, 1, 1);
        Checks.equal("5.6 rounded down", x.least(0), 5);
        x.excuse(1, 103);
        Checks.equal("3.997.. rounded down", x.least(1), 3);
        x.excuse(2, 359);
        Checks.equal("0.01.. rounded down", x.least(2), 0);
        x.set(99999, 99, 0, 1, 1);
        x.excuse(3, 1);
        Checks.equal("divided once, at the end", x.least(3), 98724);
        x.set(100000, 100, 0, 1, 1);
        Checks.equal("a product above all ints", x.least(0), 100000);
        Checks.equal("one day less of it", x.least(3), 99722);
        x.close();
        Checks.equal("a closed year's least", x.least(0), 100000);
        for (int year : new int[] {LOWEST, -1, 20, HIGHEST}) {
            Checks.argumentRefused("least of " + year, () -> x.least(year));
        }
    }
}
