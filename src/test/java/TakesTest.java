/** Promises 5, 6 and 8 to 10: take, takeDaily, closed, taken, takenFrom. */
public final class TakesTest {
    private static final int LOWEST = Integer.MIN_VALUE;
    private static final int HIGHEST = Integer.MAX_VALUE;

    private TakesTest() {
    }

    public static void main(String[] args) {
        promise5Take();
        promise5TakeOutOfRange();
        promise5TakeWhenAllYearsAreClosed();
        promise6TakeDaily();
        promise6TakeDailyTakesAllOrNothing();
        promise6TakeDailyOutOfRange();
        promise6TakeDailyWhenAllYearsAreClosed();
        promise8Closed();
        promise9Taken();
        promise10TakenFrom();
        promise10TakenFromOutOfRange();
        Checks.finish();
    }

    private static void promise5Take() {
        MakeupGas x = new MakeupGas();
        Checks.equal("take on the first day", x.take(0, 1), 1);
        Checks.equal("take on the last day", x.take(359, 500), 500);
        Checks.equal("take again on a day", x.take(0, 2), 3);
        Checks.equal("up to 500", x.take(0, 497), 500);
        Checks.stateRefused("above 500", () -> x.take(0, 1));
        Checks.equal("a refused take changes nothing", x.takenFrom(0, 0), 500);
        Checks.equal("the year", x.taken(0), 1000);
        x.close();
        Checks.equal("the same day of the next year", x.take(0, 500), 500);
        Checks.equal("counts for the next year", x.taken(1), 500);
        Checks.equal("and not for the closed one", x.taken(0), 1000);
    }

    private static void promise5TakeOutOfRange() {
        MakeupGas x = new MakeupGas();
        x.take(7, 500);
        for (int day : new int[] {LOWEST, -1, 360, HIGHEST}) {
            Checks.argumentRefused("take on day " + day, () -> x.take(day, 1));
        }
        for (int quantity : new int[] {LOWEST, -1, 0, 501, HIGHEST}) {
            Checks.argumentRefused("take of " + quantity, () -> x.take(8, quantity));
            Checks.argumentRefused("take of " + quantity + ", full day", () -> x.take(7, quantity));
        }
        Checks.equal("refused takes change nothing", x.taken(0), 500);
    }

    private static void promise5TakeWhenAllYearsAreClosed() {
        MakeupGas x = allClosed();
        Checks.stateRefused("take when all years are closed", () -> x.take(0, 1));
        Checks.argumentRefused("the argument first", () -> x.take(360, 1));
        Checks.argumentRefused("the argument first", () -> x.take(0, 0));
    }

    private static void promise6TakeDaily() {
        MakeupGas x = new MakeupGas();
        Checks.equal("takeDaily on all days", x.takeDaily(0, 359, 2), 720);
        Checks.equal("takeDaily on one day", x.takeDaily(5, 5, 498), 1218);
        Checks.equal("takeDaily on some days", x.takeDaily(6, 8, 10), 1248);
        Checks.equal("the day before", x.takenFrom(5, 5), 500);
        Checks.equal("the first of them", x.takenFrom(6, 6), 12);
        Checks.equal("the last of them", x.takenFrom(8, 8), 12);
        Checks.equal("the day behind", x.takenFrom(9, 9), 2);
        Checks.equal("the last day", x.takeDaily(359, 359, 498), 1746);
        x.close();
        Checks.equal("the next year begins anew", x.takeDaily(0, 359, 500), 180000);
    }

    private static void promise6TakeDailyTakesAllOrNothing() {
        MakeupGas x = new MakeupGas();
        x.take(4, 500);
        Checks.stateRefused("the last day is full", () -> x.takeDaily(0, 4, 1));
        Checks.stateRefused("the first day is full", () -> x.takeDaily(4, 8, 1));
        Checks.stateRefused("a day between is full", () -> x.takeDaily(0, 359, 1));
        Checks.equal("nothing is taken before it", x.takenFrom(0, 3), 0);
        Checks.equal("nor on it", x.takenFrom(4, 4), 500);
        Checks.equal("nor behind it", x.takenFrom(5, 359), 0);
        Checks.equal("nor in the year", x.taken(0), 500);
        Checks.equal("the days before are free", x.takeDaily(0, 3, 500), 2500);
    }

    private static void promise6TakeDailyOutOfRange() {
        MakeupGas x = new MakeupGas();
        x.take(7, 500);
        for (int from : new int[] {LOWEST, -1, 360, HIGHEST}) {
            Checks.argumentRefused("takeDaily from " + from, () -> x.takeDaily(from, 359, 1));
            Checks.argumentRefused("takeDaily on " + from, () -> x.takeDaily(from, from, 1));
        }
        for (int to : new int[] {LOWEST, -1, 5, 360, HIGHEST}) {
            Checks.argumentRefused("takeDaily from 6 to " + to, () -> x.takeDaily(6, to, 1));
        }
        for (int quantity : new int[] {LOWEST, -1, 0, 501, HIGHEST}) {
            Checks.argumentRefused("takeDaily of " + quantity, () -> x.takeDaily(0, 359, quantity));
        }
        Checks.equal("refused takes change nothing", x.taken(0), 500);
    }

    private static void promise6TakeDailyWhenAllYearsAreClosed() {
        MakeupGas x = allClosed();
        Checks.stateRefused("takeDaily when all years are closed", () -> x.takeDaily(0, 0, 1));
        Checks.argumentRefused("the argument first", () -> x.takeDaily(1, 0, 1));
        Checks.argumentRefused("the argument first", () -> x.takeDaily(0, 0, 501));
    }

    private static void promise8Closed() {
        MakeupGas x = new MakeupGas();
        for (int year = 0; year < 20; year++) {
            Checks.equal("closed", x.closed(), year);
            x.close();
        }
        Checks.equal("closed, all", x.closed(), 20);
        Checks.stateRefused("close when all are closed", x::close);
        Checks.equal("closed, still all", x.closed(), 20);
    }

    private static void promise9Taken() {
        MakeupGas x = new MakeupGas();
        x.takeDaily(0, 9, 3);
        x.take(0, 5);
        Checks.equal("the year that goes on", x.taken(0), 35);
        Checks.equal("a year to come", x.taken(1), 0);
        x.close();
        x.take(2, 8);
        Checks.equal("a closed year", x.taken(0), 35);
        Checks.equal("the next year", x.taken(1), 8);
        Checks.equal("the last year", x.taken(19), 0);
        for (int year : new int[] {LOWEST, -1, 20, HIGHEST}) {
            Checks.argumentRefused("taken of " + year, () -> x.taken(year));
        }
        MakeupGas y = allClosed();
        Checks.equal("taken in the last year, closed", y.taken(19), 360);
    }

    private static void promise10TakenFrom() {
        MakeupGas x = new MakeupGas();
        x.take(0, 1);
        x.take(10, 20);
        x.take(359, 300);
        Checks.equal("all days", x.takenFrom(0, 359), 321);
        Checks.equal("the first day", x.takenFrom(0, 0), 1);
        Checks.equal("the last day", x.takenFrom(359, 359), 300);
        Checks.equal("days between", x.takenFrom(1, 358), 20);
        Checks.equal("the last of them counts", x.takenFrom(1, 10), 20);
        Checks.equal("the first of them counts", x.takenFrom(10, 11), 20);
        Checks.equal("days without takes", x.takenFrom(11, 358), 0);
        x.close();
        Checks.equal("the next year", x.takenFrom(0, 359), 0);
        x.takeDaily(0, 359, 500);
        Checks.equal("the most of a year", x.takenFrom(0, 359), 180000);
        MakeupGas y = allClosed();
        Checks.equal("when all years are closed", y.takenFrom(0, 359), 0);
    }

    private static void promise10TakenFromOutOfRange() {
        MakeupGas open = new MakeupGas();
        MakeupGas full = allClosed();
        for (MakeupGas x : new MakeupGas[] {open, full}) {
            for (int from : new int[] {LOWEST, -1, 360, HIGHEST}) {
                Checks.argumentRefused("takenFrom " + from, () -> x.takenFrom(from, 359));
                Checks.argumentRefused("takenFrom " + from, () -> x.takenFrom(from, from));
            }
            for (int to : new int[] {LOWEST, -1, 5, 360, HIGHEST}) {
                Checks.argumentRefused("takenFrom 6 to " + to, () -> x.takenFrom(6, to));
            }
        }
    }

    /** All 20 years are closed, each with a unit taken on each day. */
    private static MakeupGas allClosed() {
        MakeupGas x = new MakeupGas();
        for (int year = 0; year < 20; year++) {
            x.takeDaily(0, 359, 1);
            x.close();
        }
        return x;
    }
}
