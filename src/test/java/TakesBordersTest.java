/**
 * The borders that the document's sentences name, a method for each sentence: the days, the year
 * that goes on, and promises 5, 6 and 8 to 10. The sentence stands above its method.
 */
public final class TakesBordersTest {
    private static final int[] CLOSED = {0, 1, 18, 19};

    private TakesBordersTest() {
    }

    public static void main(String[] args) {
        termsDays();
        termsYearThatGoesOn();
        promise5Day();
        promise5Quantity();
        promise5HowMuchOnThisDay();
        promise5FiveHundredOnADay();
        promise5FiveHundredUnitByUnit();
        promise5FullDayOnly();
        promise5AllYearsClosed();
        promise5ArgumentBeforeState();
        promise6From();
        promise6To();
        promise6Quantity();
        promise6HowMuchInTheYear();
        promise6FiveHundredOnOneOfTheDays();
        promise6FullDaysOutside();
        promise6AllYearsClosed();
        promise6ArgumentBeforeState();
        promise8HowManyYears();
        promise9Year();
        promise9EmptyAndFull();
        promise9AllYearsClosed();
        promise10From();
        promise10To();
        promise10FromOneToAnother();
        promise10YearThatGoesOn();
        promise10AllYearsClosed();
        promise10ArgumentWhenAllYearsClosed();
        lastCallThatCounts();
        Checks.finish();
    }

    /** "with the days 0 to 359 each" */
    private static void termsDays() {
        MakeupGas x = new MakeupGas();
        for (int day = 0; day < 360; day++) {
            Checks.equal("day " + day, x.take(day, 1 + day % 7), 1 + day % 7);
        }
        MakeupGas y = new MakeupGas();
        for (int day = 0; day < 360; day++) {
            y.takeDaily(day, 359, 1);
        }
        for (int day = 0; day < 150; day++) {
            Checks.equal("day " + day, x.takenFrom(day, day), 1 + day % 7);
            Checks.equal("day " + day, y.takenFrom(day, day), day + 1);
        }
        Checks.equal("the last day", x.takenFrom(359, 359), 3);
        Checks.equal("the last day", y.takenFrom(359, 359), 360);
    }

    /** "the year that goes on is the first one that is not closed" */
    private static void termsYearThatGoesOn() {
        MakeupGas x = new MakeupGas();
        for (int year = 0; year < 20; year++) {
            x.take(0, year + 1);
            x.takeDaily(1, 2, year + 1);
            Checks.equal("taken in year " + year, x.taken(year), 3 * (year + 1));
            x.close();
        }
        for (int year = 0; year < 20; year++) {
            Checks.equal("taken in year " + year + ", closed", x.taken(year), 3 * (year + 1));
        }
    }

    /** "day: 0 to 359" */
    private static void promise5Day() {
        for (int years : CLOSED) {
            MakeupGas x = Situations.closedYears(years);
            Checks.argumentRefused("-1", () -> x.take(-1, 1));
            Checks.argumentRefused("360", () -> x.take(360, 1));
            Checks.equal("nothing is taken", x.taken(years), 0);
            Checks.equal("0", x.take(0, 2), 2);
            Checks.equal("359", x.take(359, 3), 3);
            Checks.equal("taken on day 0", x.takenFrom(0, 0), 2);
            Checks.equal("taken on day 359", x.takenFrom(359, 359), 3);
        }
    }

    /** "quantity: 1 to 500" */
    private static void promise5Quantity() {
        for (int years : CLOSED) {
            MakeupGas x = Situations.closedYears(years);
            Checks.argumentRefused("0", () -> x.take(5, 0));
            Checks.argumentRefused("-1", () -> x.take(5, -1));
            Checks.argumentRefused("501", () -> x.take(5, 501));
            Checks.equal("1", x.take(5, 1), 1);
            Checks.equal("500", x.take(6, 500), 500);
            Checks.argumentRefused("-1 of what was taken", () -> x.take(5, -1));
            Checks.equal("taken", x.taken(years), 501);
        }
    }

    /** "Returns how much has been taken on this day." */
    private static void promise5HowMuchOnThisDay() {
        MakeupGas x = new MakeupGas();
        x.takeDaily(0, 10, 7);
        Checks.equal("with what was taken daily", x.take(10, 1), 8);
        Checks.equal("with what was taken before", x.take(10, 1), 9);
        Checks.equal("not with other days", x.take(11, 1), 1);
        x.close();
        Checks.equal("not with other years", x.take(10, 2), 2);
    }

    /** "IllegalStateException if .. more than 500 would be taken on the day" */
    private static void promise5FiveHundredOnADay() {
        MakeupGas x = new MakeupGas();
        x.take(0, 499);
        Checks.stateRefused("499 and 2", () -> x.take(0, 2));
        Checks.equal("499 and 1", x.take(0, 1), 500);
        Checks.stateRefused("500 and 1", () -> x.take(0, 1));
        Checks.stateRefused("500 and 500", () -> x.take(0, 500));
        x.take(359, 1);
        Checks.stateRefused("1 and 500", () -> x.take(359, 500));
        Checks.equal("1 and 499", x.take(359, 499), 500);
        x.takeDaily(7, 7, 250);
        Checks.stateRefused("250 and 251", () -> x.take(7, 251));
        Checks.equal("250 and 250", x.take(7, 250), 500);
        Checks.equal("the year", x.taken(0), 1500);
    }

    /** "more than 500 would be taken on the day": by as many calls as that needs. */
    private static void promise5FiveHundredUnitByUnit() {
        MakeupGas x = new MakeupGas();
        for (int taken = 1; taken <= 500; taken++) {
            Checks.equal("unit by unit", x.take(100, 1), taken);
        }
        Checks.stateRefused("one more", () -> x.take(100, 1));
        Checks.equal("the day", x.takenFrom(100, 100), 500);
        Checks.equal("the year", x.taken(0), 500);
    }

    /** "on the day": another day, or the day of another year, may be full. */
    private static void promise5FullDayOnly() {
        MakeupGas x = new MakeupGas();
        x.take(4, 500);
        Checks.equal("the day before", x.take(3, 500), 500);
        Checks.equal("the day behind", x.take(5, 500), 500);
        x.close();
        Checks.equal("the day of the next year", x.take(4, 500), 500);
        Checks.stateRefused("it is full too", () -> x.take(4, 1));
    }

    /** "IllegalStateException if all years are closed" */
    private static void promise5AllYearsClosed() {
        MakeupGas x = Situations.closedYears(19);
        Checks.equal("19 are closed", x.take(0, 1), 1);
        x.close();
        Checks.stateRefused("20 are closed", () -> x.take(0, 1));
        Checks.stateRefused("20 are closed", () -> x.take(359, 500));
        Checks.equal("nothing more is taken", x.taken(19), 1);
    }

    /** "if both apply, IllegalArgumentException is thrown" */
    private static void promise5ArgumentBeforeState() {
        MakeupGas full = new MakeupGas();
        full.take(0, 500);
        Checks.argumentRefused("0 on a full day", () -> full.take(0, 0));
        Checks.argumentRefused("501 on a full day", () -> full.take(0, 501));
        MakeupGas closed = Situations.closedYears(20);
        Checks.argumentRefused("day -1, all closed", () -> closed.take(-1, 1));
        Checks.argumentRefused("day 360, all closed", () -> closed.take(360, 1));
        Checks.argumentRefused("0, all closed", () -> closed.take(0, 0));
        Checks.argumentRefused("501, all closed", () -> closed.take(0, 501));
    }

    /** "from: 0 to 359" */
    private static void promise6From() {
        MakeupGas x = new MakeupGas();
        Checks.argumentRefused("-1", () -> x.takeDaily(-1, 359, 1));
        Checks.argumentRefused("-1 to -1", () -> x.takeDaily(-1, -1, 1));
        Checks.argumentRefused("360 to 360", () -> x.takeDaily(360, 360, 1));
        Checks.argumentRefused("360 to 359", () -> x.takeDaily(360, 359, 1));
        Checks.equal("0", x.takeDaily(0, 1, 1), 2);
        Checks.equal("on day 0", x.takenFrom(0, 0), 1);
        Checks.equal("359", x.takeDaily(359, 359, 1), 3);
        Checks.equal("on day 359", x.takenFrom(359, 359), 1);
    }

    /** "to: from to 359" */
    private static void promise6To() {
        MakeupGas x = new MakeupGas();
        Checks.argumentRefused("5 to 4", () -> x.takeDaily(5, 4, 1));
        Checks.argumentRefused("1 to 0", () -> x.takeDaily(1, 0, 1));
        Checks.argumentRefused("359 to 358", () -> x.takeDaily(359, 358, 1));
        Checks.argumentRefused("0 to -1", () -> x.takeDaily(0, -1, 1));
        Checks.argumentRefused("5 to 360", () -> x.takeDaily(5, 360, 1));
        Checks.argumentRefused("359 to 360", () -> x.takeDaily(359, 360, 1));
        Checks.equal("nothing is taken", x.taken(0), 0);
        Checks.equal("5 to 5", x.takeDaily(5, 5, 1), 1);
        Checks.equal("0 to 0", x.takeDaily(0, 0, 1), 2);
        Checks.equal("5 to 359", x.takeDaily(5, 359, 1), 357);
        Checks.equal("day 4", x.takenFrom(4, 4), 0);
        Checks.equal("day 359", x.takenFrom(359, 359), 1);
    }

    /** "quantity: 1 to 500: on each day" */
    private static void promise6Quantity() {
        for (int years : CLOSED) {
            MakeupGas x = Situations.closedYears(years);
            Checks.argumentRefused("0", () -> x.takeDaily(0, 359, 0));
            Checks.argumentRefused("501", () -> x.takeDaily(0, 359, 501));
            Checks.argumentRefused("501 on one day", () -> x.takeDaily(3, 3, 501));
            Checks.equal("1", x.takeDaily(0, 9, 1), 10);
            Checks.argumentRefused("-1 of what was taken", () -> x.takeDaily(0, 9, -1));
            Checks.equal("500", x.takeDaily(10, 19, 500), 5010);
            Checks.equal("on each day", x.takenFrom(19, 19), 500);
        }
    }

    /** "Returns how much has been taken in the year." */
    private static void promise6HowMuchInTheYear() {
        MakeupGas x = new MakeupGas();
        x.take(359, 3);
        Checks.equal("with other days", x.takeDaily(0, 0, 1), 4);
        Checks.equal("with the same days", x.takeDaily(0, 0, 1), 5);
        x.close();
        Checks.equal("not with other years", x.takeDaily(0, 358, 500), 179500);
        Checks.equal("the most of a year", x.takeDaily(359, 359, 500), 180000);
    }

    /** "IllegalStateException if .. more than 500 would be taken on one of the days" */
    private static void promise6FiveHundredOnOneOfTheDays() {
        for (int day : new int[] {0, 180, 359}) {
            MakeupGas x = new MakeupGas();
            x.take(day, 1);
            Checks.stateRefused("1 and 500 on day " + day, () -> x.takeDaily(0, 359, 500));
            Checks.equal("nothing is taken", x.taken(0), 1);
            Checks.equal("1 and 499 on day " + day, x.takeDaily(0, 359, 499), 1 + 360 * 499);
            Checks.stateRefused("500 and 1 on day " + day, () -> x.takeDaily(0, 359, 1));
            Checks.equal("nothing is taken", x.taken(0), 1 + 360 * 499);
            Checks.stateRefused("on this day alone", () -> x.takeDaily(day, day, 1));
        }
        MakeupGas y = new MakeupGas();
        Checks.equal("500 on all days", y.takeDaily(0, 359, 500), 180000);
        Checks.stateRefused("and one more", () -> y.takeDaily(0, 359, 1));
        Checks.equal("all days stay full", y.takenFrom(0, 359), 180000);
    }

    /** "on one of the days": the days just outside may be full. */
    private static void promise6FullDaysOutside() {
        MakeupGas x = new MakeupGas();
        x.take(4, 500);
        x.take(8, 500);
        Checks.equal("between them", x.takeDaily(5, 7, 500), 2500);
        Checks.equal("before them", x.takeDaily(0, 3, 1), 2504);
        Checks.equal("behind them", x.takeDaily(9, 359, 1), 2855);
        Checks.stateRefused("up to the first", () -> x.takeDaily(0, 4, 1));
        Checks.stateRefused("from the last on", () -> x.takeDaily(8, 359, 1));
    }

    /** "IllegalStateException if all years are closed" */
    private static void promise6AllYearsClosed() {
        MakeupGas x = Situations.closedYears(19);
        Checks.equal("19 are closed", x.takeDaily(0, 359, 1), 360);
        x.close();
        Checks.stateRefused("20 are closed", () -> x.takeDaily(0, 0, 1));
        Checks.stateRefused("20 are closed", () -> x.takeDaily(0, 359, 500));
        Checks.equal("nothing more is taken", x.taken(19), 360);
    }

    /** "if both apply, IllegalArgumentException is thrown" */
    private static void promise6ArgumentBeforeState() {
        MakeupGas full = new MakeupGas();
        full.takeDaily(0, 359, 500);
        for (MakeupGas x : new MakeupGas[] {full, Situations.closedYears(20)}) {
            Checks.stateRefused("the state alone", () -> x.takeDaily(0, 359, 1));
            Checks.argumentRefused("from -1", () -> x.takeDaily(-1, 359, 1));
            Checks.argumentRefused("from 360", () -> x.takeDaily(360, 360, 1));
            Checks.argumentRefused("5 to 4", () -> x.takeDaily(5, 4, 1));
            Checks.argumentRefused("to 360", () -> x.takeDaily(0, 360, 1));
            Checks.argumentRefused("0", () -> x.takeDaily(0, 359, 0));
            Checks.argumentRefused("501", () -> x.takeDaily(0, 359, 501));
        }
    }

    /** "Returns how many years are closed." */
    private static void promise8HowManyYears() {
        MakeupGas x = new MakeupGas();
        Checks.equal("none", x.closed(), 0);
        for (int years = 1; years <= 20; years++) {
            x.close();
            Checks.equal("so many", x.closed(), years);
        }
        Checks.stateRefused("one more", x::close);
        Checks.equal("still all", x.closed(), 20);
    }

    /** "year: 0 to 19" */
    private static void promise9Year() {
        for (int years : new int[] {0, 1, 19, 20}) {
            MakeupGas x = Situations.closedYears(years);
            Checks.argumentRefused("-1", () -> x.taken(-1));
            Checks.argumentRefused("20", () -> x.taken(20));
            Checks.equal("0", x.taken(0), 0);
            Checks.equal("19", x.taken(19), 0);
        }
    }

    /** "how much has been taken in a year": nothing, and all that can be, closed or not. */
    private static void promise9EmptyAndFull() {
        MakeupGas x = new MakeupGas();
        x.close();
        x.takeDaily(0, 359, 500);
        Checks.equal("nothing, closed", x.taken(0), 0);
        Checks.equal("all, going on", x.taken(1), 180000);
        Checks.equal("to come", x.taken(2), 0);
        x.close();
        Checks.equal("all, closed", x.taken(1), 180000);
        Checks.equal("going on, nothing yet", x.taken(2), 0);
    }

    /** The same when all years are closed. */
    private static void promise9AllYearsClosed() {
        MakeupGas x = new MakeupGas();
        x.take(0, 1);
        Situations.closeUntil(x, 19, 0);
        x.takeDaily(0, 359, 500);
        x.close();
        Checks.equal("the first year", x.taken(0), 1);
        Checks.equal("the last but one", x.taken(18), 0);
        Checks.equal("the last year", x.taken(19), 180000);
    }

    /** "from: 0 to 359" */
    private static void promise10From() {
        MakeupGas x = new MakeupGas();
        x.takeDaily(0, 359, 2);
        Checks.argumentRefused("-1", () -> x.takenFrom(-1, 359));
        Checks.argumentRefused("-1 to -1", () -> x.takenFrom(-1, -1));
        Checks.argumentRefused("360 to 360", () -> x.takenFrom(360, 360));
        Checks.argumentRefused("360 to 359", () -> x.takenFrom(360, 359));
        Checks.equal("0", x.takenFrom(0, 359), 720);
        Checks.equal("359", x.takenFrom(359, 359), 2);
    }

    /** "to: from to 359" */
    private static void promise10To() {
        MakeupGas x = new MakeupGas();
        x.takeDaily(0, 359, 2);
        Checks.argumentRefused("5 to 4", () -> x.takenFrom(5, 4));
        Checks.argumentRefused("359 to 358", () -> x.takenFrom(359, 358));
        Checks.argumentRefused("0 to -1", () -> x.takenFrom(0, -1));
        Checks.argumentRefused("0 to 360", () -> x.takenFrom(0, 360));
        Checks.argumentRefused("359 to 360", () -> x.takenFrom(359, 360));
        Checks.equal("0 to 0", x.takenFrom(0, 0), 2);
        Checks.equal("5 to 5", x.takenFrom(5, 5), 2);
        Checks.equal("5 to 359", x.takenFrom(5, 359), 710);
    }

    /** "on days .. from one to another one": both of them, and none outside. */
    private static void promise10FromOneToAnother() {
        MakeupGas x = new MakeupGas();
        x.take(4, 1);
        x.take(5, 20);
        x.take(8, 300);
        x.take(9, 500);
        Checks.equal("5 to 8", x.takenFrom(5, 8), 320);
        Checks.equal("5 to 7", x.takenFrom(5, 7), 20);
        Checks.equal("6 to 8", x.takenFrom(6, 8), 300);
        Checks.equal("6 to 7", x.takenFrom(6, 7), 0);
        Checks.equal("4 to 9", x.takenFrom(4, 9), 821);
        MakeupGas full = new MakeupGas();
        full.takeDaily(0, 359, 500);
        Checks.equal("all that can be", full.takenFrom(0, 359), 180000);
        Checks.equal("a full day", full.takenFrom(0, 0), 500);
    }

    /** "of the year that goes on" */
    private static void promise10YearThatGoesOn() {
        MakeupGas x = new MakeupGas();
        x.take(3, 7);
        x.close();
        Checks.equal("not what was taken before", x.takenFrom(0, 359), 0);
        x.take(3, 8);
        Checks.equal("what was taken in it", x.takenFrom(3, 3), 8);
        Situations.closeUntil(x, 19, 0);
        x.take(3, 9);
        Checks.equal("the last year", x.takenFrom(3, 3), 9);
    }

    /** "0 if all years are closed" */
    private static void promise10AllYearsClosed() {
        MakeupGas x = Situations.closedYears(19);
        x.takeDaily(0, 359, 500);
        Checks.equal("19 are closed", x.takenFrom(0, 359), 180000);
        x.close();
        Checks.equal("20 are closed", x.takenFrom(0, 359), 0);
        Checks.equal("the first day", x.takenFrom(0, 0), 0);
        Checks.equal("the last day", x.takenFrom(359, 359), 0);
    }

    /** "IllegalArgumentException if an argument is out of range", even then. */
    private static void promise10ArgumentWhenAllYearsClosed() {
        MakeupGas x = Situations.closedYears(20);
        Checks.argumentRefused("-1 to 0", () -> x.takenFrom(-1, 0));
        Checks.argumentRefused("360 to 360", () -> x.takenFrom(360, 360));
        Checks.argumentRefused("5 to 4", () -> x.takenFrom(5, 4));
        Checks.argumentRefused("0 to 360", () -> x.takenFrom(0, 360));
    }

    /** "at most 512 calls after it has been made": the 512th is still promised. */
    private static void lastCallThatCounts() {
        MakeupGas x = new MakeupGas();
        for (int call = 1; call <= 510; call++) {
            x.take(call % 360, 1);
        }
        Checks.equal("the 511th call", x.close(), 2880000);
        Checks.equal("the 512th call", x.taken(0), 510);
    }
}
