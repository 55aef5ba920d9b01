import java.util.function.LongSupplier;

/** Long runs of calls, always the same ones, whose answers must be those of the model. */
public final class ModelTest {
    private static final int RUNS = 150;
    private static final int CALLS = 512;

    /** What the runs must have come by, so that they don't agree about nothing. */
    private static int yearsMadeUp = 0;
    private static int yearsCovered = 0;
    private static int runsLapsed = 0;
    private static int billsBelowZero = 0;
    private static int refusedArguments = 0;
    private static int refusedStates = 0;
    private static int runsToTheEnd = 0;

    private final MakeupGas gas = new MakeupGas();
    private final Model model = new Model();
    private final int run;
    private int yearlyQuantity = 36000;
    private long seed;
    private String call = "";

    private ModelTest(int run) {
        this.run = run;
        this.seed = run * 7919L + 12345L;
    }

    public static void main(String[] args) {
        for (int run = 0; run < RUNS; run++) {
            new ModelTest(run).allCalls();
        }
        Checks.holds("make-up gas is taken: " + yearsMadeUp, yearsMadeUp > 100);
        Checks.holds("surplus covers gaps: " + yearsCovered, yearsCovered > 100);
        Checks.holds("make-up gas lapses: " + runsLapsed, runsLapsed > RUNS / 4);
        Checks.holds("bills are below 0: " + billsBelowZero, billsBelowZero > 10);
        Checks.holds("arguments are refused: " + refusedArguments, refusedArguments > 1000);
        Checks.holds("states are refused: " + refusedStates, refusedStates > 1000);
        Checks.holds("runs close all years: " + runsToTheEnd, runsToTheEnd > RUNS / 4);
        Checks.finish();
    }

    private void allCalls() {
        int calls = 0;
        for (int contracts = next(4); contracts > 0; contracts--, calls++) {
            setContract();
        }
        for (; calls < CALLS; calls++) {
            oneCall(next(100));
        }
        runsLapsed += model.lapsed() > 0 ? 1 : 0;
        runsToTheEnd += model.closed() == 20 ? 1 : 0;
        for (int year = 0; year < model.closed(); year++) {
            yearsMadeUp += model.madeUp(year) > 0 ? 1 : 0;
            yearsCovered += model.covered(year) > 0 ? 1 : 0;
            billsBelowZero += model.bill(year) < 0 ? 1 : 0;
        }
    }

    private void oneCall(int kind) {
        if (kind < 1) {
            setContract();
        } else if (kind < 5) {
            review();
        } else if (kind < 9) {
            excuse();
        } else if (kind < 13) {
            take();
        } else if (kind < 22) {
            takeDaily();
        } else if (kind < 22 + 2 + run % 7) {
            compare("close()", gas::close, model::close);
        } else {
            ask(next(15));
        }
    }

    private void setContract() {
        int quantity = new int[] {1, 99, 1000, 36000, 100000, 0, 100001, 1 + next(100000)}[next(8)];
        int least = percent();
        int share = percent();
        int makeUpYears = aroundRange(1, 5);
        int surplusYears = aroundRange(1, 5);
        compare("set(" + quantity + ", " + least + ", " + share + ", " + makeUpYears + ", "
                + surplusYears + ")", () -> {
            gas.set(quantity, least, share, makeUpYears, surplusYears);
            yearlyQuantity = quantity;
            return 0;
        }, () -> {
            model.set(quantity, least, share, makeUpYears, surplusYears);
            return 0;
        });
    }

    private void review() {
        int year = aroundRange(0, 19);
        int price = next(4) == 0 ? aroundRange(1, 1000) : 60 + next(80);
        compare("review(" + year + ", " + price + ")", () -> gas.review(year, price),
                () -> model.review(year, price));
    }

    private void excuse() {
        int year = aroundRange(0, 19);
        int days = next(3) == 0 ? aroundRange(0, 360) : next(90);
        compare("excuse(" + year + ", " + days + ")", () -> gas.excuse(year, days),
                () -> model.excuse(year, days));
    }

    private void take() {
        int day = aroundRange(0, 359);
        int quantity = aroundRange(1, 500);
        compare("take(" + day + ", " + quantity + ")", () -> gas.take(day, quantity),
                () -> model.take(day, quantity));
    }

    /** Mostly so much that the year comes somewhere about the yearly quantity. */
    private void takeDaily() {
        int from = aroundRange(0, 359);
        int to = next(3) == 0 ? aroundRange(0, 359) : from + next(Math.max(1, 360 - from));
        int days = Math.max(1, to - from + 1);
        int about = yearlyQuantity / days;
        int quantity = next(8) == 0 ? aroundRange(1, 500) : Math.min(500, 1 + next(about + 1));
        compare("takeDaily(" + from + ", " + to + ", " + quantity + ")",
                () -> gas.takeDaily(from, to, quantity), () -> model.takeDaily(from, to, quantity));
    }

    private void ask(int kind) {
        int year = next(4) == 0 ? aroundRange(0, 19) : next(model.closed() + 1);
        int from = aroundRange(0, 359);
        int to = next(2) == 0 ? 359 : aroundRange(0, 359);
        switch (kind) {
            case 0 -> compare("closed()", gas::closed, model::closed);
            case 1 -> compare("taken(" + year + ")", () -> gas.taken(year), () -> model.taken(year));
            case 2 -> compare("takenFrom(" + from + ", " + to + ")", () -> gas.takenFrom(from, to),
                    () -> model.takenFrom(from, to));
            case 3 -> compare("price(" + year + ")", () -> gas.price(year), () -> model.price(year));
            case 4 -> compare("least(" + year + ")", () -> gas.least(year), () -> model.least(year));
            case 5 -> compare("shortfall(" + year + ")", () -> gas.shortfall(year),
                    () -> model.shortfall(year));
            case 6 -> compare("madeUp(" + year + ")", () -> gas.madeUp(year), () -> model.madeUp(year));
            case 7 -> compare("covered(" + year + ")", () -> gas.covered(year),
                    () -> model.covered(year));
            case 8 -> compare("surplus(" + year + ")", () -> gas.surplus(year),
                    () -> model.surplus(year));
            case 9 -> compare("due(" + year + ")", () -> gas.due(year), () -> model.due(year));
            case 10 -> compare("bill(" + year + ")", () -> gas.bill(year), () -> model.bill(year));
            case 11 -> compare("makeUpLeft(" + year + ")", () -> gas.makeUpLeft(year),
                    () -> model.makeUpLeft(year));
            case 12 -> compare("surplusLeft(" + year + ")", () -> gas.surplusLeft(year),
                    () -> model.surplusLeft(year));
            case 13 -> compare("lapsed()", gas::lapsed, model::lapsed);
            default -> compare("open()", gas::open, model::open);
        }
    }

    private void compare(String call, LongSupplier got, LongSupplier due) {
        this.call = call;
        String want = answer(due);
        Checks.equal("run " + run + ": " + this.call, answer(got), want);
        refusedArguments += want.equals("IllegalArgumentException") ? 1 : 0;
        refusedStates += want.equals("IllegalStateException") ? 1 : 0;
    }

    private static String answer(LongSupplier call) {
        try {
            return Long.toString(call.getAsLong());
        } catch (RuntimeException thrown) {
            return thrown.getClass().getSimpleName();
        }
    }

    private int percent() {
        return new int[] {0, 50, 80, 90, 100, 33, -1, 101, next(101), next(101)}[next(10)];
    }

    /** Mostly within the range, now and then at its ends or just outside. */
    private int aroundRange(int lowest, int highest) {
        int kind = next(30);
        if (kind < 2) {
            return kind == 0 ? lowest - 1 : highest + 1;
        }
        if (kind < 5) {
            return kind == 2 ? lowest : highest;
        }
        return lowest + next(highest - lowest + 1);
    }

    private int next(int bound) {
        seed = seed * 6364136223846793005L + 1442695040888963407L;
        return (int) ((seed >>> 33) % bound);
    }
}
