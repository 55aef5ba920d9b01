/**
 * The borders that the document's sentences name, a method for each sentence: Terms, Contract, and
 * promises 1 to 4, 11 and 12. The sentence stands above its method.
 */
public final class ContractBordersTest {
    private ContractBordersTest() {
    }

    public static void main(String[] args) {
        termsYears();
        termsDivisionsRoundedDown();
        termsDivisionsRoundedDownOnce();
        contractLeastOfExcusedDays();
        promise1FirstLeast();
        promise1FirstYearlyQuantity();
        promise1FirstShare();
        promise1FirstMakeUpYears();
        promise1FirstSurplusYears();
        promise1FirstPrice();
        promise1NothingTaken();
        promise1YearZeroGoesOn();
        promise2Quantity();
        promise2Least();
        promise2Share();
        promise2MakeUpYears();
        promise2SurplusYears();
        promise2SomethingTaken();
        promise2YearClosed();
        promise2NothingTakenNorClosed();
        promise2ArgumentBeforeState();
        promise3Year();
        promise3Price();
        promise3InAYearAndInAllLaterOnes();
        promise3PriceUntilThen();
        promise3InEveryState();
        promise4Year();
        promise4Days();
        promise4HowManyWereBefore();
        promise4OneYearOnly();
        promise4InEveryState();
        promise11Year();
        promise12Year();
        Checks.finish();
    }

    /** "There are the years 0 to 19" */
    private static void termsYears() {
        MakeupGas x = new MakeupGas();
        for (int year = 0; year < 20; year++) {
            int before = year > 0 ? year : 100;
            Checks.equal("price before, year " + year, x.review(year, year + 1), before);
            Checks.equal("days before, year " + year, x.excuse(year, year), 0);
        }
        for (int year = 0; year < 20; year++) {
            Checks.equal("price of year " + year, x.price(year), year + 1);
            Checks.equal("least of year " + year, x.least(year), 80 * (360 - year));
            Checks.equal("closed before year " + year, x.closed(), year);
            x.close();
        }
    }

    /** "Divisions are rounded down." */
    private static void termsDivisionsRoundedDown() {
        Checks.equal("99 / 100 of a unit", leastOf(99, 1, 0), 0);
        Checks.equal("just one unit", leastOf(100, 1, 0), 1);
        Checks.equal("199 / 100 of a unit", leastOf(199, 1, 0), 1);
        Checks.equal("359 / 360 of a unit", leastOf(1, 100, 1), 0);
        Checks.equal("35999 / 36000 of a unit", leastOf(35999, 1, 359), 0);
        Checks.equal("36000 / 36000 of a unit", leastOf(36000, 1, 359), 1);
        Checks.equal("a shortfall price of 0.99", shortfallOfOne(1, 99), 0);
        Checks.equal("a shortfall price of just 1", shortfallOfOne(1, 100), 1);
        Checks.equal("another one of 0.99", shortfallOfOne(3, 33), 0);
        Checks.equal("one of 1.02", shortfallOfOne(3, 34), 1);
        Checks.equal("one of 989.01", shortfallOfOne(999, 99), 989);
        Checks.equal("the highest one", shortfallOfOne(1000, 100), 1000);
    }

    /** "yearly quantity * percent * (360 - days) / 36000", "its price times the share / 100" */
    private static void termsDivisionsRoundedDownOnce() {
        Checks.equal("not after the percent already", leastOf(3, 50, 120), 1);
        Checks.equal("not after the days already", leastOf(3, 67, 180), 1);
        MakeupGas x = new MakeupGas();
        x.set(2, 100, 50, 1, 1);
        x.review(0, 199);
        Checks.equal("the price of a unit is rounded, not that of both", x.close(), 198);
    }

    private static int leastOf(int quantity, int percent, int days) {
        MakeupGas x = new MakeupGas();
        x.set(quantity, percent, 100, 1, 1);
        x.excuse(0, days);
        return x.least(0);
    }

    private static long shortfallOfOne(int price, int share) {
        MakeupGas x = new MakeupGas();
        x.set(1, 100, share, 1, 1);
        x.review(0, price);
        return x.close();
    }

    /** "(360 - days) / 36000, with the days of the year that are excused" */
    private static void contractLeastOfExcusedDays() {
        Checks.equal("the highest least quantity", leastOf(100000, 100, 0), 100000);
        Checks.equal("less one day", leastOf(100000, 100, 1), 99722);
        Checks.equal("one day's", leastOf(100000, 100, 359), 277);
        Checks.equal("none", leastOf(100000, 100, 360), 0);
        Checks.equal("none of the first contract", leastOf(36000, 80, 360), 0);
        Checks.equal("one day's of the first contract", leastOf(36000, 80, 359), 80);
        Checks.equal("no percent", leastOf(100000, 0, 0), 0);
        Checks.equal("one percent", leastOf(100000, 1, 0), 1000);
        Checks.equal("99 percent", leastOf(100000, 99, 0), 99000);
        Checks.equal("the lowest quantity", leastOf(1, 100, 0), 1);
    }

    /** "a least part in percent, 80 at first" */
    private static void promise1FirstLeast() {
        MakeupGas below = new MakeupGas();
        Situations.closeWith(below, 28799);
        Checks.equal("one unit below it", below.shortfall(0), 1);
        MakeupGas just = new MakeupGas();
        Situations.closeWith(just, 28800);
        Checks.equal("just so much", just.shortfall(0), 0);
    }

    /** "a yearly quantity, 36000 at first" */
    private static void promise1FirstYearlyQuantity() {
        MakeupGas just = new MakeupGas();
        Situations.closeWith(just, 36000);
        Checks.equal("just so much", just.surplus(0), 0);
        MakeupGas above = new MakeupGas();
        Situations.closeWith(above, 36001);
        Checks.equal("one unit above it", above.surplus(0), 1);
    }

    /** "a share of the price in percent that is paid for shortfalls, 100 at first" */
    private static void promise1FirstShare() {
        MakeupGas x = new MakeupGas();
        Checks.equal("the whole price", x.close(), 28800 * 100);
        Situations.closeWith(x, 28900);
        Checks.equal("nothing is left to pay for make-up gas", x.due(1), 28800 * 100);
    }

    /** "for how many years make-up gas is kept, 3 at first" */
    private static void promise1FirstMakeUpYears() {
        MakeupGas x = new MakeupGas();
        x.close();
        Situations.closeUntil(x, 4, 28800);
        Checks.equal("kept in year 3", x.makeUpLeft(0), 28800);
        Situations.closeUntil(x, 5, 28800);
        Checks.equal("not kept in year 4", x.makeUpLeft(0), 0);
    }

    /** "for how many years surplus is kept, 2 at first" */
    private static void promise1FirstSurplusYears() {
        MakeupGas x = new MakeupGas();
        Situations.closeWith(x, 36100);
        Situations.closeUntil(x, 3, 28800);
        Checks.equal("kept in year 2", x.surplusLeft(0), 100);
        Situations.closeUntil(x, 4, 28800);
        Checks.equal("not kept in year 3", x.surplusLeft(0), 0);
    }

    /** "The price of a unit is told for each year, at first 100." */
    private static void promise1FirstPrice() {
        MakeupGas x = new MakeupGas();
        Checks.equal("the first year", x.price(0), 100);
        Checks.equal("the last year", x.price(19), 100);
        Checks.equal("a year's gas", Situations.closeWith(x, 28800), 2880000);
    }

    /** "nothing is taken" */
    private static void promise1NothingTaken() {
        MakeupGas x = new MakeupGas();
        for (int year = 0; year < 20; year++) {
            Checks.equal("in year " + year, x.taken(year), 0);
        }
        for (int day = 0; day < 360; day++) {
            Checks.equal("on day " + day, x.takenFrom(day, day), 0);
        }
    }

    /** "the year 0 goes on" */
    private static void promise1YearZeroGoesOn() {
        MakeupGas x = new MakeupGas();
        Checks.equal("no year is closed", x.closed(), 0);
        Checks.stateRefused("not even year 0", () -> x.bill(0));
        x.take(0, 1);
        Checks.equal("taken in year 0", x.taken(0), 1);
        Checks.equal("and not in year 1", x.taken(1), 0);
    }

    /** "quantity: 1 to 100000" */
    private static void promise2Quantity() {
        MakeupGas x = new MakeupGas();
        Checks.argumentRefused("0", () -> x.set(0, 100, 100, 1, 1));
        Checks.argumentRefused("100001", () -> x.set(100001, 100, 100, 1, 1));
        x.set(100000, 100, 100, 1, 1);
        Checks.equal("100000", x.least(0), 100000);
        Situations.closeWith(x, 100000);
        Situations.closeWith(x, 100001);
        Checks.equal("just the highest quantity", x.surplus(0), 0);
        Checks.equal("one unit above it", x.surplus(1), 1);

        MakeupGas y = new MakeupGas();
        y.set(1, 100, 100, 1, 1);
        Checks.equal("1", y.least(0), 1);
        Situations.closeWith(y, 1);
        Situations.closeWith(y, 2);
        Checks.equal("just the lowest quantity", y.surplus(0), 0);
        Checks.equal("one unit above it", y.surplus(1), 1);
    }

    /** "least: 0 to 100: the least part in percent" */
    private static void promise2Least() {
        MakeupGas x = new MakeupGas();
        Checks.argumentRefused("-1", () -> x.set(1000, -1, 100, 1, 1));
        Checks.argumentRefused("101", () -> x.set(1000, 101, 100, 1, 1));
        x.set(1000, 0, 100, 1, 1);
        Checks.equal("0", x.least(0), 0);
        Checks.equal("then nothing is due if nothing is taken", x.close(), 0);
        Checks.equal("nor is there a shortfall", x.shortfall(0), 0);

        MakeupGas y = new MakeupGas();
        y.set(1000, 100, 100, 1, 1);
        Checks.equal("100", y.least(0), 1000);
        Situations.closeWith(y, 999);
        Checks.equal("one unit below the yearly quantity", y.shortfall(0), 1);
        Situations.closeWith(y, 1000);
        Checks.equal("just the yearly quantity", y.shortfall(1), 0);
    }

    /** "share: 0 to 100: the share for shortfalls" */
    private static void promise2Share() {
        MakeupGas x = new MakeupGas();
        Checks.argumentRefused("-1", () -> x.set(1000, 80, -1, 1, 1));
        Checks.argumentRefused("101", () -> x.set(1000, 80, 101, 1, 1));
        x.set(1000, 80, 0, 1, 1);
        Checks.equal("0", x.close(), 0);
        MakeupGas y = new MakeupGas();
        y.set(1000, 80, 100, 1, 1);
        Checks.equal("100", y.close(), 80000);
        MakeupGas z = new MakeupGas();
        z.set(1000, 80, 1, 1, 1);
        Checks.equal("1", z.close(), 800);
    }

    /** "makeUpYears: 1 to 5" */
    private static void promise2MakeUpYears() {
        MakeupGas x = new MakeupGas();
        Checks.argumentRefused("0", () -> x.set(1000, 80, 50, 0, 1));
        Checks.argumentRefused("6", () -> x.set(1000, 80, 50, 6, 1));
        for (int kept = 1; kept <= 5; kept++) {
            MakeupGas y = Situations.small(kept, 6 - kept);
            y.close();
            Situations.closeUntil(y, kept + 1, 800);
            Checks.equal("kept so long: " + kept, y.makeUpLeft(0), 800);
            Situations.closeUntil(y, kept + 2, 800);
            Checks.equal("and no longer: " + kept, y.makeUpLeft(0), 0);
        }
    }

    /** "surplusYears: 1 to 5" */
    private static void promise2SurplusYears() {
        MakeupGas x = new MakeupGas();
        Checks.argumentRefused("0", () -> x.set(1000, 80, 50, 1, 0));
        Checks.argumentRefused("6", () -> x.set(1000, 80, 50, 1, 6));
        for (int kept = 1; kept <= 5; kept++) {
            MakeupGas y = Situations.small(6 - kept, kept);
            Situations.closeWith(y, 1100);
            Situations.closeUntil(y, kept + 1, 800);
            Checks.equal("kept so long: " + kept, y.surplusLeft(0), 100);
            Situations.closeUntil(y, kept + 2, 800);
            Checks.equal("and no longer: " + kept, y.surplusLeft(0), 0);
        }
    }

    /** "IllegalStateException if something was taken" */
    private static void promise2SomethingTaken() {
        MakeupGas first = new MakeupGas();
        first.take(0, 1);
        Checks.stateRefused("a unit on the first day", () -> first.set(1000, 80, 50, 3, 2));
        MakeupGas last = new MakeupGas();
        last.take(359, 1);
        Checks.stateRefused("a unit on the last day", () -> last.set(1000, 80, 50, 3, 2));
        MakeupGas daily = new MakeupGas();
        daily.takeDaily(5, 5, 1);
        Checks.stateRefused("by takeDaily", () -> daily.set(1000, 80, 50, 3, 2));
        Checks.equal("the contract stays", daily.least(0), 28800);
    }

    /** "or a year is closed" */
    private static void promise2YearClosed() {
        for (int years : new int[] {1, 2, 19, 20}) {
            MakeupGas x = Situations.closedYears(years);
            Checks.stateRefused("closed: " + years, () -> x.set(1000, 80, 50, 3, 2));
            Checks.equal("the contract stays", x.least(19), 28800);
        }
    }

    /** The other side of both: "if something was taken, or a year is closed" */
    private static void promise2NothingTakenNorClosed() {
        MakeupGas x = new MakeupGas();
        Checks.argumentRefused("a take on no day", () -> x.take(360, 1));
        Checks.argumentRefused("a take of nothing", () -> x.take(0, 0));
        Checks.argumentRefused("a take of too much", () -> x.takeDaily(0, 359, 501));
        x.review(0, 7);
        x.excuse(0, 180);
        x.set(1000, 80, 50, 3, 2);
        Checks.equal("set", x.least(1), 800);
        x.set(2000, 80, 50, 3, 2);
        Checks.equal("set again", x.least(1), 1600);
        Checks.equal("the excused days stay", x.least(0), 800);
        Checks.equal("the price stays", x.price(0), 7);
    }

    /** "if both apply, IllegalArgumentException is thrown" */
    private static void promise2ArgumentBeforeState() {
        MakeupGas taken = new MakeupGas();
        taken.take(0, 1);
        for (MakeupGas x : new MakeupGas[] {taken, Situations.closedYears(1)}) {
            Checks.stateRefused("the state alone", () -> x.set(1, 0, 0, 1, 1));
            Checks.stateRefused("the state alone", () -> x.set(100000, 100, 100, 5, 5));
            Checks.argumentRefused("quantity 0", () -> x.set(0, 0, 0, 1, 1));
            Checks.argumentRefused("quantity 100001", () -> x.set(100001, 0, 0, 1, 1));
            Checks.argumentRefused("least -1", () -> x.set(1, -1, 0, 1, 1));
            Checks.argumentRefused("least 101", () -> x.set(1, 101, 0, 1, 1));
            Checks.argumentRefused("share -1", () -> x.set(1, 0, -1, 1, 1));
            Checks.argumentRefused("share 101", () -> x.set(1, 0, 101, 1, 1));
            Checks.argumentRefused("makeUpYears 0", () -> x.set(1, 0, 0, 0, 1));
            Checks.argumentRefused("makeUpYears 6", () -> x.set(1, 0, 0, 6, 1));
            Checks.argumentRefused("surplusYears 0", () -> x.set(1, 0, 0, 1, 0));
            Checks.argumentRefused("surplusYears 6", () -> x.set(1, 0, 0, 1, 6));
        }
    }

    /** "year: 0 to 19" */
    private static void promise3Year() {
        MakeupGas x = new MakeupGas();
        Checks.argumentRefused("-1", () -> x.review(-1, 50));
        Checks.argumentRefused("20", () -> x.review(20, 50));
        Checks.equal("19", x.review(19, 50), 100);
        Checks.equal("told", x.price(19), 50);
        Checks.equal("0", x.review(0, 60), 100);
        Checks.equal("told", x.price(0), 60);
    }

    /** "price: 1 to 1000" */
    private static void promise3Price() {
        MakeupGas x = new MakeupGas();
        Checks.argumentRefused("0", () -> x.review(0, 0));
        Checks.argumentRefused("1001", () -> x.review(0, 1001));
        Checks.equal("1000", x.review(0, 1000), 100);
        Checks.equal("told", x.price(0), 1000);
        Checks.equal("1", x.review(0, 1), 1000);
        Checks.equal("told", x.price(0), 1);
    }

    /** "it is this one in a year and in all later ones" */
    private static void promise3InAYearAndInAllLaterOnes() {
        for (int told = 0; told < 20; told++) {
            MakeupGas x = new MakeupGas();
            x.review(told, 7);
            for (int year = 0; year < 20; year++) {
                int due = year < told ? 100 : 7;
                Checks.equal("told " + told + ", year " + year, x.price(year), due);
            }
        }
        MakeupGas x = new MakeupGas();
        x.review(19, 8);
        x.review(10, 9);
        Checks.equal("even in those that were told before", x.price(19), 9);
    }

    /** "Returns the price that this year had until then." */
    private static void promise3PriceUntilThen() {
        MakeupGas x = new MakeupGas();
        Checks.equal("the first one", x.review(5, 100), 100);
        Checks.equal("the same once more", x.review(5, 7), 100);
        Checks.equal("the one told", x.review(5, 8), 7);
        Checks.equal("that of an earlier review", x.review(6, 9), 8);
        Checks.equal("that of this year, not of a later one", x.review(5, 10), 8);
        Checks.equal("that of this year, not of an earlier one", x.review(19, 11), 10);
    }

    /** "excuses and reviews can come late": a review names no state in which it is refused. */
    private static void promise3InEveryState() {
        for (int years : new int[] {0, 1, 19, 20}) {
            MakeupGas x = Situations.closedYears(years);
            Checks.equal("the first year, closed: " + years, x.review(0, 99), 100);
            Checks.equal("the last year, closed: " + years, x.review(19, 98), 99);
            long due = -28800L * years - (years == 20 ? 28800 : 0);
            Checks.equal("what is open, closed: " + years, x.open(), due);
        }
    }

    /** "year: 0 to 19" */
    private static void promise4Year() {
        MakeupGas x = new MakeupGas();
        Checks.argumentRefused("-1", () -> x.excuse(-1, 180));
        Checks.argumentRefused("20", () -> x.excuse(20, 180));
        x.excuse(0, 180);
        Checks.equal("0", x.least(0), 14400);
        x.excuse(19, 90);
        Checks.equal("19", x.least(19), 21600);
    }

    /** "days: 0 to 360" */
    private static void promise4Days() {
        MakeupGas x = new MakeupGas();
        Checks.argumentRefused("-1", () -> x.excuse(0, -1));
        Checks.argumentRefused("361", () -> x.excuse(0, 361));
        Checks.equal("360", x.excuse(0, 360), 0);
        Checks.equal("then nothing is left", x.least(0), 0);
        Checks.equal("0", x.excuse(0, 0), 360);
        Checks.equal("then it is whole", x.least(0), 28800);
    }

    /** "Returns how many were before." */
    private static void promise4HowManyWereBefore() {
        MakeupGas x = new MakeupGas();
        Checks.equal("none", x.excuse(3, 1), 0);
        Checks.equal("one", x.excuse(3, 1), 1);
        Checks.equal("they are set, not added", x.excuse(3, 360), 1);
        Checks.equal("all", x.excuse(3, 0), 360);
        Checks.equal("none again", x.excuse(3, 0), 0);
    }

    /** "how many days of a year are excused": of this one, not of later ones. */
    private static void promise4OneYearOnly() {
        MakeupGas x = new MakeupGas();
        x.excuse(10, 360);
        for (int year = 0; year < 20; year++) {
            Checks.equal("year " + year, x.least(year), year == 10 ? 0 : 28800);
        }
    }

    /** "excuses and reviews can come late": an excuse names no state in which it is refused. */
    private static void promise4InEveryState() {
        for (int years : new int[] {0, 1, 19, 20}) {
            MakeupGas x = Situations.closedYears(years);
            Checks.equal("the first year, closed: " + years, x.excuse(0, 360), 0);
            Checks.equal("the last year, closed: " + years, x.excuse(19, 360), 0);
            long excused = (years > 0 ? 1 : 0) + (years == 20 ? 1 : 0);
            Checks.equal("what is open, closed: " + years, x.open(), -2880000 * excused);
        }
    }

    /** "year: 0 to 19", closed or not */
    private static void promise11Year() {
        for (int years : new int[] {0, 19, 20}) {
            MakeupGas x = Situations.closedYears(years);
            x.review(19, 50);
            Checks.argumentRefused("-1", () -> x.price(-1));
            Checks.argumentRefused("20", () -> x.price(20));
            Checks.equal("0", x.price(0), 100);
            Checks.equal("18", x.price(18), 100);
            Checks.equal("19", x.price(19), 50);
        }
    }

    /** "year: 0 to 19", closed or not */
    private static void promise12Year() {
        for (int years : new int[] {0, 19, 20}) {
            MakeupGas x = Situations.closedYears(years);
            x.excuse(19, 180);
            Checks.argumentRefused("-1", () -> x.least(-1));
            Checks.argumentRefused("20", () -> x.least(20));
            Checks.equal("0", x.least(0), 28800);
            Checks.equal("18", x.least(18), 28800);
            Checks.equal("19", x.least(19), 14400);
        }
    }
}
