/** Promises 7 and 13 to 22: close, and what is answered of the closed years. */
public final class YearsTest {
    private YearsTest() {
    }

    public static void main(String[] args) {
        promise7CloseBillsTheYear();
        promise7CloseSettlesTheDifference();
        promise7BillBelowZero();
        promise7BillAboveAllInts();
        promise7CloseWhenAllAreClosed();
        promise13Shortfall();
        promise14MadeUp();
        promise14MadeUpOldestFirst();
        promise15Covered();
        promise15CoveredOldestFirst();
        promise16Surplus();
        promise17Due();
        promise17DueOfMakeUpGasByItsYear();
        promise18Bill();
        promise19MakeUpLeft();
        promise20SurplusLeft();
        promise21Lapsed();
        promise21LapsedIsFoundAnew();
        promise22Open();
        yearsThatChangeSides();
        yearsThatAreNotClosed();
        yearsOutOfRange();
        Checks.finish();
    }

    /** A yearly quantity of 1000, a least part of 80 percent, a share of 50, kept for 2 and 1. */
    private static MakeupGas small() {
        MakeupGas x = new MakeupGas();
        x.set(1000, 80, 50, 2, 1);
        return x;
    }

    /** Closes a year in which so much was taken. */
    private static long closeWith(MakeupGas x, int quantity) {
        int left = quantity;
        for (int day = 0; left > 0; day++) {
            x.take(day, Math.min(500, left));
            left -= Math.min(500, left);
        }
        return x.close();
    }

    private static void promise7CloseBillsTheYear() {
        MakeupGas x = small();
        Checks.equal("less than the least", closeWith(x, 799), 79900 + 50);
        Checks.equal("the least, just so", closeWith(x, 800), 80000);
        Checks.equal("one unit of make-up gas", closeWith(x, 801), 80000 + 50);
        Checks.equal("the yearly quantity", closeWith(x, 1000), 100000);
        Checks.equal("above it", closeWith(x, 1500), 150000);
        Checks.equal("the gap is covered by surplus", closeWith(x, 700), 70000);
        Checks.equal("nothing at all", x.close(), 40000);
        Checks.equal("seven years are closed", x.closed(), 7);
    }

    private static void promise7CloseSettlesTheDifference() {
        MakeupGas x = small();
        closeWith(x, 800);
        x.review(0, 120);
        Checks.equal("the review of a closed year comes with it", closeWith(x, 1000), 16000 + 120000);
        x.review(1, 100);
        x.excuse(2, 360);
        Checks.equal("a price lowered again", x.close(), -20000);
        Checks.equal("and then it is settled", closeWith(x, 800), 80000);
    }

    private static void promise7BillBelowZero() {
        MakeupGas x = small();
        Checks.equal("a shortfall of the whole least", x.close(), 40000);
        x.excuse(0, 360);
        x.excuse(1, 360);
        Checks.equal("is paid back when it is excused", x.close(), -40000);
        Checks.equal("the bill is kept", x.bill(1), -40000);
        Checks.equal("nothing is open", x.open(), 0);
    }

    private static void promise7BillAboveAllInts() {
        MakeupGas x = new MakeupGas();
        x.review(0, 1);
        for (int year = 0; year < 19; year++) {
            x.takeDaily(0, 359, 500);
            Checks.equal("a year at the lowest price", x.close(), 180000);
        }
        x.takeDaily(0, 359, 500);
        x.review(0, 1000);
        Checks.equal("open, above all ints", x.open(), 19L * 180000 * 999);
        Checks.equal("the bill", x.close(), 19L * 180000 * 999 + 180000000);
        Checks.equal("the bill is kept", x.bill(19), 19L * 180000 * 999 + 180000000);
        x.review(0, 1);
        Checks.equal("open, below all ints", x.open(), -20L * 180000 * 999);
    }

    private static void promise7CloseWhenAllAreClosed() {
        MakeupGas x = new MakeupGas();
        for (int year = 0; year < 20; year++) {
            Checks.equal("a year without takes", x.close(), 2880000);
        }
        Checks.stateRefused("close when all years are closed", x::close);
        x.review(0, 101);
        Checks.stateRefused("even if something is open", x::close);
        Checks.equal("it is still open", x.open(), 20 * 28800);
        Checks.equal("the last bill stays", x.bill(19), 2880000);
    }

    private static void promise13Shortfall() {
        MakeupGas x = small();
        closeWith(x, 799);
        closeWith(x, 800);
        closeWith(x, 1100);
        closeWith(x, 750);
        closeWith(x, 0);
        Checks.equal("one unit short", x.shortfall(0), 1);
        Checks.equal("none short", x.shortfall(1), 0);
        Checks.equal("surplus", x.shortfall(2), 0);
        Checks.equal("covered by surplus", x.shortfall(3), 0);
        Checks.equal("all of it, the surplus has lapsed", x.shortfall(4), 800);
        x.excuse(3, 359);
        Checks.equal("an excuse behind it changes nothing", x.shortfall(4), 800);
        x.excuse(4, 180);
        Checks.equal("found anew", x.shortfall(4), 400);
        x.excuse(3, 0);
        x.excuse(2, 0);

        MakeupGas y = small();
        closeWith(y, 1030);
        closeWith(y, 700);
        Checks.equal("less what surplus covers", y.shortfall(1), 70);
    }

    private static void promise14MadeUp() {
        MakeupGas x = small();
        closeWith(x, 600);
        closeWith(x, 800);
        Checks.equal("nothing above the least", x.madeUp(1), 0);
        closeWith(x, 850);
        Checks.equal("as much as is above the least", x.madeUp(2), 50);
        closeWith(x, 500);
        Checks.equal("a year below the least", x.madeUp(3), 0);
        closeWith(x, 2000);
        Checks.equal("as much as there is: year 0's has lapsed", x.madeUp(4), 300);
        closeWith(x, 1000);
        Checks.equal("there is none", x.madeUp(5), 0);
        x.excuse(3, 360);
        Checks.equal("found anew", x.madeUp(4), 0);

        MakeupGas y = small();
        closeWith(y, 700);
        y.excuse(1, 360);
        closeWith(y, 60);
        Checks.equal("above a least of 0", y.madeUp(1), 60);
        Checks.equal("the rest is left", y.makeUpLeft(0), 40);
    }

    private static void promise14MadeUpOldestFirst() {
        MakeupGas x = small();
        closeWith(x, 700);
        closeWith(x, 600);
        closeWith(x, 950);
        Checks.equal("from two years", x.madeUp(2), 150);
        Checks.equal("the oldest is used up", x.makeUpLeft(0), 0);
        Checks.equal("the younger follows", x.makeUpLeft(1), 150);
    }

    private static void promise15Covered() {
        MakeupGas x = small();
        closeWith(x, 1100);
        Checks.equal("no gap", x.covered(0), 0);
        closeWith(x, 770);
        Checks.equal("as much as the gap", x.covered(1), 30);
        Checks.equal("the rest is left", x.surplusLeft(0), 70);
        closeWith(x, 700);
        Checks.equal("it has lapsed", x.covered(2), 0);
        closeWith(x, 1400);
        Checks.equal("make-up gas of 100 lowers the surplus", x.surplus(3), 300);
        closeWith(x, 0);
        Checks.equal("as much as there is", x.covered(4), 300);
        Checks.equal("the rest is short", x.shortfall(4), 500);
        x.excuse(4, 315);
        Checks.equal("found anew", x.covered(4), 100);
    }

    private static void promise15CoveredOldestFirst() {
        MakeupGas x = new MakeupGas();
        x.set(1000, 80, 50, 2, 5);
        closeWith(x, 1100);
        closeWith(x, 1200);
        closeWith(x, 650);
        Checks.equal("from two years", x.covered(2), 150);
        Checks.equal("the oldest is used up", x.surplusLeft(0), 0);
        Checks.equal("the younger follows", x.surplusLeft(1), 150);
    }

    private static void promise16Surplus() {
        MakeupGas x = small();
        closeWith(x, 1000);
        closeWith(x, 1001);
        closeWith(x, 700);
        closeWith(x, 1098);
        closeWith(x, 1101);
        Checks.equal("the yearly quantity is no surplus", x.surplus(0), 0);
        Checks.equal("one unit above it", x.surplus(1), 1);
        Checks.equal("a year below the least", x.surplus(2), 0);
        Checks.equal("less the make-up gas", x.surplus(3), 0);
        Checks.equal("without make-up gas", x.surplus(4), 101);
        x.excuse(2, 360);
        Checks.equal("found anew: no make-up gas", x.surplus(3), 98);
        x.excuse(1, 360);
        Checks.equal("excused days leave the yearly quantity", x.surplus(1), 1);
    }

    private static void promise17Due() {
        MakeupGas x = small();
        x.review(0, 101);
        closeWith(x, 700);
        Checks.equal("700 units, 100 short at 50", x.due(0), 70700 + 5000);
        x.review(1, 60);
        closeWith(x, 860);
        Checks.equal("60 of make-up gas for 10 more", x.due(1), 800 * 60 + 60 * 10);
        x.review(2, 50);
        closeWith(x, 830);
        Checks.equal("30 of make-up gas for nothing more", x.due(2), 800 * 50);
        x.review(2, 1);
        Checks.equal("never for less than nothing", x.due(2), 800);
        x.review(0, 103);
        Checks.equal("found anew", x.due(0), 72100 + 5100);
        Checks.equal("a review is for all later years", x.due(1), 800 * 103 + 60 * 52);

        MakeupGas free = new MakeupGas();
        free.set(1000, 80, 0, 2, 1);
        closeWith(free, 700);
        closeWith(free, 900);
        Checks.equal("a share of 0: nothing for a shortfall", free.due(0), 70000);
        Checks.equal("and the whole price for make-up gas", free.due(1), 90000);

        MakeupGas whole = new MakeupGas();
        whole.set(1000, 80, 100, 2, 1);
        closeWith(whole, 700);
        closeWith(whole, 900);
        Checks.equal("a share of 100: the whole price", whole.due(0), 80000);
        Checks.equal("and nothing for make-up gas", whole.due(1), 80000);
    }

    private static void promise17DueOfMakeUpGasByItsYear() {
        MakeupGas x = small();
        x.review(0, 40);
        x.review(1, 80);
        x.review(2, 30);
        closeWith(x, 700);
        closeWith(x, 700);
        closeWith(x, 1000);
        Checks.equal("10 more for year 0's, nothing for year 1's", x.due(2), 800 * 30 + 100 * 10);
    }

    private static void promise18Bill() {
        MakeupGas x = small();
        long first = closeWith(x, 800);
        x.review(0, 200);
        long second = closeWith(x, 800);
        x.review(0, 100);
        x.excuse(0, 360);
        Checks.equal("the first bill", first, 80000);
        Checks.equal("as it was", x.bill(0), first);
        Checks.equal("the second bill", second, 240000);
        Checks.equal("as it was", x.bill(1), second);
        x.close();
        Checks.equal("all bills are what is due", x.bill(0) + x.bill(1) + x.bill(2),
                x.due(0) + x.due(1) + x.due(2));
    }

    private static void promise19MakeUpLeft() {
        MakeupGas x = small();
        closeWith(x, 700);
        Checks.equal("all of it", x.makeUpLeft(0), 100);
        closeWith(x, 820);
        Checks.equal("less what was taken", x.makeUpLeft(0), 80);
        closeWith(x, 800);
        Checks.equal("it is kept for 2 years, and lapses in the third", x.makeUpLeft(0), 80);
        closeWith(x, 800);
        Checks.equal("then it has lapsed", x.makeUpLeft(0), 0);
        Checks.equal("a year without a shortfall", x.makeUpLeft(1), 0);
        x.excuse(3, 360);
        Checks.equal("it has lapsed before it can be taken", x.madeUp(3), 0);
        x.excuse(2, 360);
        Checks.equal("found anew", x.madeUp(2), 80);
        Checks.equal("nothing lapses", x.lapsed(), 0);
    }

    private static void promise20SurplusLeft() {
        MakeupGas x = small();
        closeWith(x, 1100);
        Checks.equal("all of it", x.surplusLeft(0), 100);
        closeWith(x, 780);
        Checks.equal("less what it covered, not lapsed yet", x.surplusLeft(0), 80);
        closeWith(x, 1200);
        Checks.equal("lapsed", x.surplusLeft(0), 0);
        Checks.equal("a year without surplus", x.surplusLeft(1), 0);
        Checks.equal("the younger is left", x.surplusLeft(2), 200);
        Checks.equal("surplus is no make-up gas: nothing has lapsed", x.lapsed(), 0);
    }

    private static void promise21Lapsed() {
        MakeupGas x = small();
        closeWith(x, 700);
        closeWith(x, 750);
        closeWith(x, 810);
        Checks.equal("nothing has lapsed", x.lapsed(), 0);
        closeWith(x, 800);
        Checks.equal("what is left of year 0", x.lapsed(), 90);
        closeWith(x, 800);
        Checks.equal("and of year 1", x.lapsed(), 140);
        closeWith(x, 800);
        Checks.equal("and no more", x.lapsed(), 140);

        MakeupGas all = new MakeupGas();
        all.set(100000, 100, 0, 1, 1);
        for (int year = 0; year < 20; year++) {
            all.close();
        }
        Checks.equal("18 years' make-up gas", all.lapsed(), 1800000);
    }

    private static void promise21LapsedIsFoundAnew() {
        MakeupGas x = small();
        closeWith(x, 0);
        closeWith(x, 800);
        closeWith(x, 800);
        closeWith(x, 800);
        Checks.equal("all of it", x.lapsed(), 800);
        x.excuse(0, 180);
        Checks.equal("half of it", x.lapsed(), 400);
        x.excuse(1, 90);
        Checks.equal("less what is taken now", x.lapsed(), 200);
        x.excuse(0, 360);
        Checks.equal("none", x.lapsed(), 0);
    }

    private static void promise22Open() {
        MakeupGas x = small();
        x.takeDaily(0, 359, 2);
        Checks.equal("the year that goes on is not due", x.open(), 0);
        x.close();
        Checks.equal("settled", x.open(), 0);
        x.review(0, 110);
        Checks.equal("a review of closed years", x.open(), 7200 + 80 * 5);
        x.review(0, 90);
        Checks.equal("a lower price", x.open(), -7200 - 80 * 5);
        x.review(1, 1);
        Checks.equal("a year that goes on", x.open(), -7200 - 80 * 5);
        x.excuse(0, 360);
        Checks.equal("an excuse", x.open(), 720 * 90 - 72000 - 80 * 50);
        long open = x.open();
        x.excuse(1, 360);
        Checks.equal("comes with the next bill", x.close(), open);
        Checks.equal("settled", x.open(), 0);
    }

    /** A late excuse turns a year with a gap into one without, and back again. */
    private static void yearsThatChangeSides() {
        MakeupGas x = small();
        closeWith(x, 700);
        closeWith(x, 60);
        Checks.equal("a gap of 740", x.shortfall(1), 740);
        x.excuse(1, 360);
        Checks.equal("no gap: no shortfall", x.shortfall(1), 0);
        Checks.equal("no gap: no make-up gas comes from it", x.makeUpLeft(1), 0);
        Checks.equal("no gap: make-up gas is taken", x.madeUp(1), 60);
        Checks.equal("no gap: it is less", x.makeUpLeft(0), 40);
        x.excuse(1, 0);
        Checks.equal("a gap again", x.shortfall(1), 740);
        Checks.equal("a gap: no make-up gas is taken", x.madeUp(1), 0);
        Checks.equal("a gap: it is whole again", x.makeUpLeft(0), 100);
        Checks.equal("a gap: make-up gas comes from it", x.makeUpLeft(1), 740);

        MakeupGas y = small();
        closeWith(y, 1100);
        closeWith(y, 750);
        Checks.equal("a gap of 50", y.covered(1), 50);
        y.excuse(1, 360);
        Checks.equal("no gap: nothing is covered", y.covered(1), 0);
        Checks.equal("no gap: the surplus is whole again", y.surplusLeft(0), 100);
    }

    private static void yearsThatAreNotClosed() {
        MakeupGas x = small();
        for (int year : new int[] {0, 1, 19}) {
            allRefused(x, year, "IllegalStateException");
        }
        x.close();
        allRefused(x, 0, "no exception");
        allRefused(x, 1, "IllegalStateException");
        MakeupGas y = small();
        for (int year = 0; year < 19; year++) {
            y.close();
        }
        allRefused(y, 18, "no exception");
        allRefused(y, 19, "IllegalStateException");
        y.close();
        allRefused(y, 19, "no exception");
    }

    private static void yearsOutOfRange() {
        MakeupGas x = small();
        for (int year : new int[] {Integer.MIN_VALUE, -1, 20, Integer.MAX_VALUE}) {
            allRefused(x, year, "IllegalArgumentException");
        }
        for (int year = 0; year < 20; year++) {
            x.close();
        }
        for (int year : new int[] {Integer.MIN_VALUE, -1, 20, Integer.MAX_VALUE}) {
            allRefused(x, year, "IllegalArgumentException");
        }
    }

    private static void allRefused(MakeupGas x, int year, String outcome) {
        Checks.equal("shortfall of " + year, Checks.outcome(() -> x.shortfall(year)), outcome);
        Checks.equal("madeUp of " + year, Checks.outcome(() -> x.madeUp(year)), outcome);
        Checks.equal("covered of " + year, Checks.outcome(() -> x.covered(year)), outcome);
        Checks.equal("surplus of " + year, Checks.outcome(() -> x.surplus(year)), outcome);
        Checks.equal("due of " + year, Checks.outcome(() -> x.due(year)), outcome);
        Checks.equal("bill of " + year, Checks.outcome(() -> x.bill(year)), outcome);
        Checks.equal("makeUpLeft of " + year, Checks.outcome(() -> x.makeUpLeft(year)), outcome);
        Checks.equal("surplusLeft of " + year, Checks.outcome(() -> x.surplusLeft(year)), outcome);
    }
}
