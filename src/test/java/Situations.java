/** Objects in the states from which tests start, and the ways to get further. */
final class Situations {
    private Situations() {
    }

    /** A yearly quantity of 1000, a least part of 80 percent, a share of 50. */
    static MakeupGas small(int makeUpYears, int surplusYears) {
        MakeupGas x = new MakeupGas();
        x.set(1000, 80, 50, makeUpYears, surplusYears);
        return x;
    }

    /** The first contract, so many years closed with nothing taken. */
    static MakeupGas closedYears(int years) {
        MakeupGas x = new MakeupGas();
        for (int year = 0; year < years; year++) {
            x.close();
        }
        return x;
    }

    /** Closes a year in which so much was taken, up to 500 on each day from the first one on. */
    static long closeWith(MakeupGas x, int quantity) {
        int fullDays = quantity / 500;
        if (fullDays > 0) {
            x.takeDaily(0, fullDays - 1, 500);
        }
        if (quantity % 500 > 0) {
            x.take(fullDays, quantity % 500);
        }
        return x.close();
    }

    /** Closes years in which so much was taken each, until so many are closed. */
    static void closeUntil(MakeupGas x, int years, int quantity) {
        while (x.closed() < years) {
            closeWith(x, quantity);
        }
    }
}
