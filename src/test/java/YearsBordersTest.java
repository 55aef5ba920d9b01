/**
 * The borders that the document's sentences name of how closed years are gone through and billed, a
 * method for each sentence: Years 1 to 4, and Bills. The sentence stands above its method.
 */
public final class YearsBordersTest {
    private YearsBordersTest() {
    }

    public static void main(String[] args) {
        step1MakeUpGasLapses();
        step1MakeUpGasLapsesBeforeItIsTaken();
        step1SurplusLapsesLikewise();
        step1SurplusLapsesBeforeItCovers();
        step2LessThanTheLeastQuantity();
        step2LeastQuantityOfNothing();
        step2AsFarAsThereIsSome();
        step2OldestSurplusFirst();
        step2SoMuchMakeUpGasComesFromThisYear();
        step2NoMakeUpGasIsTaken();
        step3AsMuchAsThereIs();
        step3OldestMakeUpGasFirst();
        step3AboveTheYearlyQuantity();
        step3LessTheMakeUpGas();
        step3LeastIsTheYearlyQuantity();
        step3NoSurplusIsDrawn();
        step3YearlyQuantityOfAnExcusedYear();
        step4ShortfallPriceAboveThePrice();
        step4ShareAtItsEnds();
        step4YearFromWhichItCame();
        step4NothingAtAll();
        step4HighestAmount();
        goneThroughAnew();
        goneThroughAnewWithSurplus();
        billsAllClosedYears();
        billsBelowZero();
        billsLessAllBillsBefore();
        billsOfEmptyAndFullYears();
        Checks.finish();
    }

    /** "lapses, if the year is later than o plus the years for which make-up gas is kept" */
    private static void step1MakeUpGasLapses() {
        for (int kept = 1; kept <= 5; kept++) {
            for (int origin : new int[] {0, 3, 18 - kept}) {
                MakeupGas x = Situations.small(kept, 1);
                Situations.closeUntil(x, origin, 800);
                Situations.closeWith(x, 700);
                Situations.closeUntil(x, origin + kept + 1, 800);
                Checks.equal("not later: left", x.makeUpLeft(origin), 100);
                Checks.equal("not later: lapsed", x.lapsed(), 0);
                Situations.closeWith(x, 800);
                Checks.equal("later: left", x.makeUpLeft(origin), 0);
                Checks.equal("later: lapsed", x.lapsed(), 100);
            }
        }
    }

    /** "1. .. lapses" stands before "3. .. is taken": the last year that can take it. */
    private static void step1MakeUpGasLapsesBeforeItIsTaken() {
        for (int kept = 1; kept <= 5; kept++) {
            MakeupGas inTime = Situations.small(kept, 1);
            Situations.closeWith(inTime, 700);
            Situations.closeUntil(inTime, kept, 800);
            Situations.closeWith(inTime, 900);
            Checks.equal("the last year: " + kept, inTime.madeUp(kept), 100);
            Situations.closeWith(inTime, 800);
            Checks.equal("nothing is left to lapse", inTime.lapsed(), 0);

            MakeupGas late = Situations.small(kept, 1);
            Situations.closeWith(late, 700);
            Situations.closeUntil(late, kept + 1, 800);
            Checks.equal("a year too late: bill", Situations.closeWith(late, 900), 90000);
            Checks.equal("a year too late: " + kept, late.madeUp(kept + 1), 0);
            Checks.equal("all of it has lapsed", late.lapsed(), 100);
        }
    }

    /** "surplus likewise" */
    private static void step1SurplusLapsesLikewise() {
        for (int kept = 1; kept <= 5; kept++) {
            for (int origin : new int[] {0, 3, 18 - kept}) {
                MakeupGas x = Situations.small(1, kept);
                Situations.closeUntil(x, origin, 800);
                Situations.closeWith(x, 1100);
                Situations.closeUntil(x, origin + kept + 1, 800);
                Checks.equal("not later", x.surplusLeft(origin), 100);
                Situations.closeWith(x, 800);
                Checks.equal("later", x.surplusLeft(origin), 0);
                Checks.equal("it is no make-up gas", x.lapsed(), 0);
            }
        }
    }

    /** "1. .. surplus likewise" stands before "2. .. is made up from surplus". */
    private static void step1SurplusLapsesBeforeItCovers() {
        for (int kept = 1; kept <= 5; kept++) {
            MakeupGas inTime = Situations.small(1, kept);
            Situations.closeWith(inTime, 1100);
            Situations.closeUntil(inTime, kept, 800);
            Situations.closeWith(inTime, 700);
            Checks.equal("the last year: " + kept, inTime.covered(kept), 100);
            Checks.equal("nothing is short", inTime.shortfall(kept), 0);

            MakeupGas late = Situations.small(1, kept);
            Situations.closeWith(late, 1100);
            Situations.closeUntil(late, kept + 1, 800);
            Situations.closeWith(late, 700);
            Checks.equal("a year too late: " + kept, late.covered(kept + 1), 0);
            Checks.equal("all of it is short", late.shortfall(kept + 1), 100);
        }
    }

    /** "2. If less than the least quantity was taken" */
    private static void step2LessThanTheLeastQuantity() {
        MakeupGas x = Situations.small(5, 5);
        Checks.equal("one unit less: bill", Situations.closeWith(x, 799), 79900 + 50);
        Checks.equal("one unit less", x.shortfall(0), 1);
        Checks.equal("just so much: bill", Situations.closeWith(x, 800), 80000);
        Checks.equal("just so much: no shortfall", x.shortfall(1), 0);
        Checks.equal("just so much: no make-up gas", x.madeUp(1), 0);
        Checks.equal("one unit more: bill", Situations.closeWith(x, 801), 80000 + 50);
        Checks.equal("one unit more", x.madeUp(2), 1);
        Checks.equal("nothing: bill", Situations.closeWith(x, 0), 40000);
        Checks.equal("nothing", x.shortfall(3), 800);
    }

    /** The same where the least quantity is 0: nothing is less than that. */
    private static void step2LeastQuantityOfNothing() {
        MakeupGas x = Situations.small(5, 5);
        x.excuse(0, 360);
        x.excuse(1, 359);
        Checks.equal("all days excused: bill", x.close(), 0);
        Checks.equal("all days excused", x.shortfall(0), 0);
        Checks.equal("one day not: bill", x.close(), 100);
        Checks.equal("one day not", x.shortfall(1), 2);
        x.excuse(2, 360);
        Checks.equal("what is taken is above it: bill", Situations.closeWith(x, 1), 50);
        Checks.equal("what is taken is above it", x.madeUp(2), 1);
    }

    /** "is made up from surplus .. as far as there is some. What is left .. is the shortfall" */
    private static void step2AsFarAsThereIsSome() {
        for (int gap : new int[] {1, 99, 100, 101, 800}) {
            MakeupGas x = Situations.small(5, 5);
            Situations.closeWith(x, 1100);
            Situations.closeWith(x, 800 - gap);
            int covered = Math.min(gap, 100);
            Checks.equal("gap " + gap + ": covered", x.covered(1), covered);
            Checks.equal("gap " + gap + ": shortfall", x.shortfall(1), gap - covered);
            Checks.equal("gap " + gap + ": left", x.surplusLeft(0), 100 - covered);
            int due = (800 - gap) * 100 + (gap - covered) * 50;
            Checks.equal("gap " + gap + ": due", x.due(1), due);
        }
        MakeupGas none = Situations.small(5, 5);
        Situations.closeWith(none, 1000);
        Situations.closeWith(none, 799);
        Checks.equal("there is none", none.covered(1), 0);
        Checks.equal("there is none: shortfall", none.shortfall(1), 1);
    }

    /** "that from the oldest year first" */
    private static void step2OldestSurplusFirst() {
        for (int gap : new int[] {99, 100, 101, 299, 300, 301, 600, 601}) {
            MakeupGas x = Situations.small(5, 5);
            Situations.closeWith(x, 1100);
            Situations.closeWith(x, 1200);
            Situations.closeWith(x, 1300);
            Situations.closeWith(x, 800 - gap);
            int left = Math.max(0, 600 - gap);
            Checks.equal("gap " + gap + ": covered", x.covered(3), Math.min(600, gap));
            Checks.equal("gap " + gap + ": youngest", x.surplusLeft(2), Math.min(300, left));
            Checks.equal("gap " + gap + ": middle", x.surplusLeft(1), within(left - 300, 200));
            Checks.equal("gap " + gap + ": oldest", x.surplusLeft(0), within(left - 500, 100));
        }
    }

    private static int within(int value, int most) {
        return Math.max(0, Math.min(most, value));
    }

    /** "so much make-up gas comes from this year": the shortfall, not the gap. */
    private static void step2SoMuchMakeUpGasComesFromThisYear() {
        MakeupGas x = Situations.small(5, 5);
        Situations.closeWith(x, 1100);
        Situations.closeWith(x, 699);
        Checks.equal("what surplus didn't cover", x.makeUpLeft(1), 1);
        Situations.closeWith(x, 1000);
        Checks.equal("no more can be taken", x.madeUp(2), 1);

        MakeupGas covered = Situations.small(5, 5);
        Situations.closeWith(covered, 1100);
        Situations.closeWith(covered, 700);
        Checks.equal("all was covered", covered.makeUpLeft(1), 0);
        Situations.closeWith(covered, 1000);
        Checks.equal("none can be taken", covered.madeUp(2), 0);

        MakeupGas whole = Situations.small(5, 5);
        whole.close();
        Checks.equal("the whole least quantity", whole.makeUpLeft(0), 800);
        Checks.equal("no surplus comes from it", whole.surplus(0), 0);
        Checks.equal("nor is some left", whole.surplusLeft(0), 0);
    }

    /** "3. Otherwise": below the least quantity no make-up gas is taken. */
    private static void step2NoMakeUpGasIsTaken() {
        MakeupGas x = Situations.small(5, 5);
        x.close();
        Situations.closeWith(x, 799);
        Checks.equal("none is taken", x.madeUp(1), 0);
        Checks.equal("all of it is left", x.makeUpLeft(0), 800);
        Checks.equal("and one unit more of this year", x.makeUpLeft(1), 1);
    }

    /** "of what was taken above the least quantity, as much as there is make-up gas" */
    private static void step3AsMuchAsThereIs() {
        for (int above : new int[] {0, 1, 99, 100, 101, 200, 201, 300, 301}) {
            MakeupGas x = Situations.small(5, 5);
            Situations.closeWith(x, 700);
            Situations.closeWith(x, 800 + above);
            int madeUp = Math.min(above, 100);
            Checks.equal("above " + above + ": made up", x.madeUp(1), madeUp);
            Checks.equal("above " + above + ": left", x.makeUpLeft(0), 100 - madeUp);
            Checks.equal("above " + above + ": surplus", x.surplus(1), Math.max(0, above - 300));
            long due = (800 + above - madeUp) * 100 + madeUp * 50;
            Checks.equal("above " + above + ": due", x.due(1), due);
        }
    }

    /** "that from the oldest year first" */
    private static void step3OldestMakeUpGasFirst() {
        for (int above : new int[] {99, 100, 101, 299, 300, 301, 600, 601}) {
            MakeupGas x = Situations.small(5, 5);
            Situations.closeWith(x, 700);
            Situations.closeWith(x, 600);
            Situations.closeWith(x, 500);
            Situations.closeWith(x, 800 + above);
            int left = Math.max(0, 600 - above);
            Checks.equal("above " + above + ": made up", x.madeUp(3), Math.min(600, above));
            Checks.equal("above " + above + ": youngest", x.makeUpLeft(2), Math.min(300, left));
            Checks.equal("above " + above + ": middle", x.makeUpLeft(1), within(left - 300, 200));
            Checks.equal("above " + above + ": oldest", x.makeUpLeft(0), within(left - 500, 100));
        }
    }

    /** "the part above the yearly quantity is surplus" */
    private static void step3AboveTheYearlyQuantity() {
        MakeupGas x = Situations.small(1, 1);
        Situations.closeWith(x, 999);
        Checks.equal("one unit below", x.surplus(0), 0);
        Situations.closeWith(x, 1000);
        Checks.equal("just so much", x.surplus(1), 0);
        Situations.closeWith(x, 1001);
        Checks.equal("one unit above", x.surplus(2), 1);
        Checks.equal("it comes from this year", x.surplusLeft(2), 1);
        Situations.closeWith(x, 180000);
        Checks.equal("all that can be taken", x.surplus(3), 179000);
    }

    /** "Of what was taken, less the make-up gas, the part above the yearly quantity" */
    private static void step3LessTheMakeUpGas() {
        for (int taken : new int[] {1099, 1100, 1101}) {
            MakeupGas x = Situations.small(5, 5);
            Situations.closeWith(x, 700);
            Situations.closeWith(x, taken);
            Checks.equal("taken " + taken + ": made up", x.madeUp(1), 100);
            Checks.equal("taken " + taken + ": surplus", x.surplus(1), Math.max(0, taken - 1100));
            Checks.equal("taken " + taken + ": left", x.surplusLeft(1), Math.max(0, taken - 1100));
        }
    }

    /** The same where the least quantity is the yearly one: make-up gas comes before surplus. */
    private static void step3LeastIsTheYearlyQuantity() {
        for (int taken : new int[] {1000, 1001, 1099, 1100, 1101}) {
            MakeupGas x = new MakeupGas();
            x.set(1000, 100, 50, 5, 5);
            Situations.closeWith(x, 900);
            Situations.closeWith(x, taken);
            int madeUp = Math.min(100, taken - 1000);
            Checks.equal("taken " + taken + ": made up", x.madeUp(1), madeUp);
            Checks.equal("taken " + taken + ": surplus", x.surplus(1), taken - 1000 - madeUp);
        }
    }

    /** "2. If .. 3. Otherwise": a year without a gap draws no surplus. */
    private static void step3NoSurplusIsDrawn() {
        MakeupGas x = Situations.small(5, 5);
        Situations.closeWith(x, 1100);
        Situations.closeWith(x, 800);
        Checks.equal("just the least: covered", x.covered(1), 0);
        Checks.equal("just the least: left", x.surplusLeft(0), 100);
        Situations.closeWith(x, 1100);
        Checks.equal("surplus once more", x.surplusLeft(2), 100);
        Checks.equal("beside the older one", x.surplusLeft(0), 100);
        Checks.equal("no make-up gas comes from it", x.makeUpLeft(2), 0);
    }

    /** "above the yearly quantity": excused days lower the least quantity alone. */
    private static void step3YearlyQuantityOfAnExcusedYear() {
        MakeupGas x = Situations.small(5, 5);
        x.excuse(0, 360);
        x.excuse(1, 360);
        Situations.closeWith(x, 1000);
        Situations.closeWith(x, 1001);
        Checks.equal("just so much", x.surplus(0), 0);
        Checks.equal("one unit above", x.surplus(1), 1);
    }

    /** "the price of the year less the shortfall price .., if that is above 0" */
    private static void step4ShortfallPriceAboveThePrice() {
        for (int price : new int[] {1, 49, 50, 51, 52, 1000}) {
            MakeupGas x = Situations.small(5, 5);
            Situations.closeWith(x, 700);
            x.review(1, price);
            Situations.closeWith(x, 900);
            long due = 800L * price + 100L * Math.max(0, price - 50);
            Checks.equal("price " + price, x.due(1), due);
            Checks.equal("the year before", x.due(0), 75000);
        }
    }

    /** "its price times the share for shortfalls / 100", at shares of 0, 1, 99 and 100 */
    private static void step4ShareAtItsEnds() {
        for (int share : new int[] {0, 1, 99, 100}) {
            MakeupGas x = new MakeupGas();
            x.set(1000, 80, share, 5, 5);
            Situations.closeWith(x, 799);
            Situations.closeWith(x, 801);
            Checks.equal("share " + share + ": the shortfall", x.due(0), 79900 + share);
            Checks.equal("share " + share + ": make-up gas", x.due(1), 80000 + 100 - share);
        }
    }

    /** "the shortfall price of the year from which it came" */
    private static void step4YearFromWhichItCame() {
        MakeupGas x = Situations.small(5, 5);
        Situations.closeWith(x, 799);
        x.review(1, 200);
        Situations.closeWith(x, 799);
        x.review(2, 101);
        Situations.closeWith(x, 801);
        Checks.equal("51 more for year 0's", x.due(2), 80800 + 51);
        Situations.closeWith(x, 801);
        Checks.equal("1 more for year 1's", x.due(3), 80800 + 1);
        x.review(2, 100);
        Checks.equal("nothing more for year 1's", x.due(3), 80000);
        Checks.equal("50 more for year 0's", x.due(2), 80000 + 50);
        x.review(0, 199);
        Checks.equal("by what has been told so far", x.due(2), 199 * 800 + 100);
    }

    /** "What is due for the year is": nothing, where nothing is taken and nothing short. */
    private static void step4NothingAtAll() {
        MakeupGas x = new MakeupGas();
        x.set(100000, 0, 100, 1, 1);
        Checks.equal("a least part of 0: bill", x.close(), 0);
        Checks.equal("a least part of 0", x.due(0), 0);
        MakeupGas y = new MakeupGas();
        y.excuse(0, 360);
        y.review(0, 1000);
        Checks.equal("all days excused: bill", y.close(), 0);
        Checks.equal("all days excused", y.due(0), 0);
        y.excuse(1, 360);
        Checks.equal("one unit at 1000", Situations.closeWith(y, 1), 1000);
    }

    /** The same with the highest price, quantity and share. */
    private static void step4HighestAmount() {
        MakeupGas x = new MakeupGas();
        x.set(100000, 100, 100, 5, 5);
        x.review(0, 1000);
        Checks.equal("nothing taken", x.close(), 100000000);
        Checks.equal("all of it short", x.shortfall(0), 100000);
        Checks.equal("the most that can be taken", Situations.closeWith(x, 180000), 100000000);
        Checks.equal("of it make-up gas", x.madeUp(1), 80000);
        Checks.equal("the most again", Situations.closeWith(x, 180000), 160000000);
        Checks.equal("the rest is make-up gas", x.madeUp(2), 20000);
        Checks.equal("and surplus", x.surplus(2), 60000);
        Checks.equal("all of it at the highest price", Situations.closeWith(x, 180000), 180000000);
    }

    /** "everything is found anew by what has been told so far": a year changes sides. */
    private static void goneThroughAnew() {
        MakeupGas x = Situations.small(5, 5);
        Situations.closeWith(x, 600);
        Situations.closeWith(x, 798);
        Checks.equal("two units short", x.shortfall(1), 2);
        x.excuse(1, 1);
        Checks.equal("a least of 797: one unit above it", x.shortfall(1), 0);
        Checks.equal("is make-up gas", x.madeUp(1), 1);
        Checks.equal("and is taken from year 0", x.makeUpLeft(0), 199);
        Checks.equal("nothing comes from this year", x.makeUpLeft(1), 0);
        x.excuse(1, 0);
        Checks.equal("two units short again", x.shortfall(1), 2);
        Checks.equal("none is made up", x.madeUp(1), 0);
        Checks.equal("year 0's is whole", x.makeUpLeft(0), 200);
        x.excuse(0, 90);
        Checks.equal("a least of 600: no shortfall", x.shortfall(0), 0);
        x.excuse(0, 89);
        Checks.equal("a least of 602: two units short", x.shortfall(0), 2);
        Checks.equal("so much is left", x.makeUpLeft(0), 2);
    }

    /** The same where surplus covers the gap. */
    private static void goneThroughAnewWithSurplus() {
        MakeupGas x = Situations.small(5, 5);
        Situations.closeWith(x, 1100);
        Situations.closeWith(x, 798);
        Checks.equal("two units are covered", x.covered(1), 2);
        x.excuse(1, 1);
        Checks.equal("a least of 797: none is covered", x.covered(1), 0);
        Checks.equal("year 0's is whole", x.surplusLeft(0), 100);
        x.excuse(1, 0);
        Checks.equal("two units are covered again", x.covered(1), 2);
        Checks.equal("and are drawn from year 0", x.surplusLeft(0), 98);
    }

    /** "what is due for all closed years, this one included" */
    private static void billsAllClosedYears() {
        MakeupGas x = Situations.small(1, 1);
        Checks.equal("the first year", Situations.closeWith(x, 800), 80000);
        x.review(0, 101);
        Checks.equal("with one year's difference", Situations.closeWith(x, 800), 80800 + 800);
        x.review(0, 102);
        Checks.equal("with two years' difference", Situations.closeWith(x, 800), 81600 + 1600);
        x.review(2, 103);
        Checks.equal("with one year's again", Situations.closeWith(x, 800), 82400 + 800);
        x.review(4, 104);
        Checks.equal("with none", Situations.closeWith(x, 800), 83200);
        Situations.closeUntil(x, 19, 800);
        x.review(0, 105);
        long difference = 2 * 800 * 3 + 2 * 800 * 2 + 15 * 800;
        Checks.equal("the last one", Situations.closeWith(x, 800), 84000 + difference);
    }

    /** "A bill can be below 0." */
    private static void billsBelowZero() {
        for (int price : new int[] {49, 50, 51}) {
            MakeupGas x = Situations.small(1, 1);
            Situations.closeWith(x, 800);
            x.review(0, price);
            Checks.equal("price " + price, Situations.closeWith(x, 800), 1600 * (price - 50));
            Checks.equal("kept", x.bill(1), 1600 * (price - 50));
            Checks.equal("settled", x.open(), 0);
        }
        MakeupGas low = new MakeupGas();
        low.review(0, 1000);
        for (int year = 0; year < 19; year++) {
            Situations.closeWith(low, 180000);
        }
        low.review(0, 1);
        Checks.equal("the lowest", Situations.closeWith(low, 180000), 180000 - 19L * 180000 * 999);
        Checks.equal("kept", low.bill(19), 180000 - 19L * 180000 * 999);
    }

    /** "less all bills before": also those below 0. */
    private static void billsLessAllBillsBefore() {
        MakeupGas x = Situations.small(1, 1);
        Situations.closeWith(x, 800);
        x.review(0, 1);
        Checks.equal("below 0", Situations.closeWith(x, 800), 1600 - 80000);
        Checks.equal("is not paid back twice", Situations.closeWith(x, 800), 800);
        x.review(0, 100);
        Checks.equal("is asked for again", Situations.closeWith(x, 800), 320000 - 2400);
    }

    /** Years in which nothing is taken, and in which all is taken, all 20 of them. */
    private static void billsOfEmptyAndFullYears() {
        MakeupGas empty = new MakeupGas();
        MakeupGas full = new MakeupGas();
        for (int year = 0; year < 20; year++) {
            Checks.equal("empty: bill", empty.close(), 2880000);
            Checks.equal("empty: shortfall", empty.shortfall(year), 28800);
            Checks.equal("empty: lapsed", empty.lapsed(), 28800 * Math.max(0, year - 3));
            Checks.equal("full: bill", Situations.closeWith(full, 180000), 18000000);
            Checks.equal("full: surplus", full.surplus(year), 144000);
            Checks.equal("full: lapsed", full.lapsed(), 0);
        }
        for (int year = 0; year < 20; year++) {
            Checks.equal("empty: make-up gas left", empty.makeUpLeft(year), year < 16 ? 0 : 28800);
            Checks.equal("full: surplus left", full.surplusLeft(year), year < 17 ? 0 : 144000);
        }
        Checks.stateRefused("empty: one more", empty::close);
        Checks.stateRefused("full: one more", full::close);
    }
}
