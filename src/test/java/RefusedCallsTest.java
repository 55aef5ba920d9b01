/**
 * A call that throws changes nothing: two objects are told the same, one of them is also told what
 * it refuses, and both must answer the same from then on.
 */
public final class RefusedCallsTest {
    private static final int[] OUTSIDE = {Integer.MIN_VALUE, -1, 1001, Integer.MAX_VALUE};

    private RefusedCallsTest() {
    }

    public static void main(String[] args) {
        onANewObject();
        inAYearThatGoesOn();
        whenAllYearsAreClosed();
        argumentsComeFirst();
        Checks.finish();
    }

    private static void onANewObject() {
        MakeupGas told = new MakeupGas();
        MakeupGas plain = new MakeupGas();
        refuseArguments(told);
        refuseClosedYears(told, 0);
        compareFrom(told, plain, 0);
    }

    private static void inAYearThatGoesOn() {
        MakeupGas told = new MakeupGas();
        MakeupGas plain = new MakeupGas();
        for (MakeupGas x : new MakeupGas[] {told, plain}) {
            x.set(1000, 80, 50, 1, 1);
            x.excuse(1, 7);
            x.take(0, 300);
            x.close();
            x.takeDaily(0, 2, 400);
            x.close();
            x.review(0, 120);
            x.take(100, 400);
        }
        refuseArguments(told);
        refuseClosedYears(told, 2);
        Checks.stateRefused("set", () -> told.set(36000, 80, 100, 3, 2));
        Checks.stateRefused("take", () -> told.take(100, 101));
        Checks.stateRefused("takeDaily", () -> told.takeDaily(0, 359, 101));
        compareFrom(told, plain, 2);
    }

    private static void whenAllYearsAreClosed() {
        MakeupGas told = new MakeupGas();
        MakeupGas plain = new MakeupGas();
        for (MakeupGas x : new MakeupGas[] {told, plain}) {
            for (int year = 0; year < 20; year++) {
                x.takeDaily(0, 359, 60 + 3 * year);
                x.close();
            }
            x.excuse(4, 100);
        }
        refuseArguments(told);
        Checks.stateRefused("set", () -> told.set(36000, 80, 100, 3, 2));
        Checks.stateRefused("take", () -> told.take(0, 1));
        Checks.stateRefused("takeDaily", () -> told.takeDaily(0, 359, 1));
        Checks.stateRefused("close", told::close);
        Checks.equal("all that is answered", Face.answers(told), Face.answers(plain));
    }

    /** Both apply: the argument is out of range, and the state does not fit. */
    private static void argumentsComeFirst() {
        MakeupGas x = new MakeupGas();
        for (int year = 0; year < 20; year++) {
            x.close();
        }
        refuseArguments(x);
    }

    private static void refuseArguments(MakeupGas x) {
        for (int outside : OUTSIDE) {
            Checks.argumentRefused("set", () -> x.set(outside == 1001 ? 0 : outside, 1, 1, 2, 2));
            Checks.argumentRefused("set", () -> x.set(5, outside, 1, 2, 2));
            Checks.argumentRefused("set", () -> x.set(5, 1, outside, 2, 2));
            Checks.argumentRefused("set", () -> x.set(5, 1, 1, outside, 2));
            Checks.argumentRefused("set", () -> x.set(5, 1, 1, 2, outside));
            Checks.argumentRefused("review", () -> x.review(outside, 9));
            Checks.argumentRefused("review", () -> x.review(1, outside));
            Checks.argumentRefused("excuse", () -> x.excuse(outside, 9));
            Checks.argumentRefused("excuse", () -> x.excuse(1, outside));
            Checks.argumentRefused("take", () -> x.take(outside, 9));
            Checks.argumentRefused("take", () -> x.take(1, outside));
            Checks.argumentRefused("takeDaily", () -> x.takeDaily(outside, 300, 9));
            Checks.argumentRefused("takeDaily", () -> x.takeDaily(1, outside, 9));
            Checks.argumentRefused("takeDaily", () -> x.takeDaily(1, 300, outside));
        }
        Checks.argumentRefused("takeDaily", () -> x.takeDaily(2, 1, 9));
    }

    private static void refuseClosedYears(MakeupGas x, int year) {
        Checks.stateRefused("shortfall", () -> x.shortfall(year));
        Checks.stateRefused("madeUp", () -> x.madeUp(year));
        Checks.stateRefused("covered", () -> x.covered(year));
        Checks.stateRefused("surplus", () -> x.surplus(year));
        Checks.stateRefused("due", () -> x.due(year));
        Checks.stateRefused("bill", () -> x.bill(year));
        Checks.stateRefused("makeUpLeft", () -> x.makeUpLeft(year));
        Checks.stateRefused("surplusLeft", () -> x.surplusLeft(year));
    }

    /** What a call changed may show only in later years, so both go on before they are compared. */
    private static void compareFrom(MakeupGas told, MakeupGas plain, int closed) {
        for (MakeupGas x : new MakeupGas[] {told, plain}) {
            for (int year = closed; year < 12; year++) {
                if (year % 3 != 0) {
                    x.takeDaily(0, 99, year % 3 * 50);
                }
                x.close();
            }
            x.take(3, 9);
        }
        Checks.equal("all that is answered", Face.answers(told), Face.answers(plain));
    }
}
