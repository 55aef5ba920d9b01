/** Reads all that a MakeupGas answers without being told anything. */
final class Face {
    private static final int YEARS = 20;
    private static final int DAYS = 360;

    private Face() {
    }

    /** All but the single days, by some 250 calls at most. */
    static String answers(MakeupGas x) {
        StringBuilder text = new StringBuilder();
        int closed = x.closed();
        text.append("closed ").append(closed);
        text.append(" lapsed ").append(x.lapsed());
        text.append(" open ").append(x.open()).append('\n');
        for (int from = 0; from < DAYS; from += 12) {
            text.append(x.takenFrom(from, from + 11)).append(' ');
        }
        text.append('\n');
        for (int year = 0; year < YEARS; year++) {
            text.append(year).append(": taken ").append(x.taken(year));
            text.append(" price ").append(x.price(year));
            text.append(" least ").append(x.least(year));
            if (year < closed) {
                appendClosedYear(text, x, year);
            }
            text.append('\n');
        }
        return text.toString();
    }

    /** What was taken on each day of the year that goes on, by 360 calls. */
    static String days(MakeupGas x) {
        StringBuilder text = new StringBuilder();
        for (int day = 0; day < DAYS; day++) {
            text.append(x.takenFrom(day, day)).append(' ');
        }
        return text.toString();
    }

    private static void appendClosedYear(StringBuilder text, MakeupGas x, int year) {
        text.append(" shortfall ").append(x.shortfall(year));
        text.append(" madeUp ").append(x.madeUp(year));
        text.append(" covered ").append(x.covered(year));
        text.append(" surplus ").append(x.surplus(year));
        text.append(" due ").append(x.due(year));
        text.append(" bill ").append(x.bill(year));
        text.append(" makeUpLeft ").append(x.makeUpLeft(year));
        text.append(" surplusLeft ").append(x.surplusLeft(year));
    }
}
