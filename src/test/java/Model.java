import java.util.ArrayDeque;
import java.util.ArrayList;
import java.util.Deque;
import java.util.HashMap;
import java.util.Iterator;
import java.util.List;
import java.util.Map;

/**
 * The document once more, in another form than the class: it only keeps what was told, and finds
 * each answer from that, with make-up gas and surplus as queues of lots.
 */
final class Model {
    private static final int YEARS = 20;

    private record Review(int year, int price) {
    }

    private record Take(int year, int day, int quantity) {
    }

    /** What is left of the gas that came from a year. */
    private static final class Lot {
        final int origin;
        int left;

        Lot(int origin, int left) {
            this.origin = origin;
            this.left = left;
        }
    }

    /** What is found of the closed years. */
    static final class Books {
        final Map<Integer, Integer> shortfall = new HashMap<>();
        final Map<Integer, Integer> madeUp = new HashMap<>();
        final Map<Integer, Integer> covered = new HashMap<>();
        final Map<Integer, Integer> surplus = new HashMap<>();
        final Map<Integer, Long> due = new HashMap<>();
        final Deque<Lot> makeUpLots = new ArrayDeque<>();
        final Deque<Lot> surplusLots = new ArrayDeque<>();
        int lapsed = 0;

        static int leftFrom(int year, Deque<Lot> lots) {
            int sum = 0;
            for (Lot lot : lots) {
                sum += lot.origin == year ? lot.left : 0;
            }
            return sum;
        }

        long dueInAll() {
            long sum = 0;
            for (long amount : due.values()) {
                sum += amount;
            }
            return sum;
        }
    }

    private int quantity = 36000;
    private int percent = 80;
    private int share = 100;
    private int makeUpYears = 3;
    private int surplusYears = 2;
    private final List<Review> reviews = new ArrayList<>();
    private final Map<Integer, Integer> excuses = new HashMap<>();
    private final List<Take> takes = new ArrayList<>();
    private final List<Long> bills = new ArrayList<>();

    void set(int quantity, int least, int share, int makeUpYears, int surplusYears) {
        argument(quantity >= 1 && quantity <= 100000);
        argument(least >= 0 && least <= 100);
        argument(share >= 0 && share <= 100);
        argument(makeUpYears >= 1 && makeUpYears <= 5);
        argument(surplusYears >= 1 && surplusYears <= 5);
        state(takes.isEmpty() && bills.isEmpty());
        this.quantity = quantity;
        this.percent = least;
        this.share = share;
        this.makeUpYears = makeUpYears;
        this.surplusYears = surplusYears;
    }

    int review(int year, int price) {
        int before = price(year);
        argument(price >= 1 && price <= 1000);
        reviews.add(new Review(year, price));
        return before;
    }

    int excuse(int year, int days) {
        argument(isYear(year) && days >= 0 && days <= 360);
        Integer before = excuses.put(year, days);
        return before == null ? 0 : before;
    }

    int take(int day, int quantity) {
        argument(isDay(day));
        takeDaily(day, day, quantity);
        return takenFrom(day, day);
    }

    int takeDaily(int from, int to, int quantity) {
        argument(isDay(from) && isDay(to) && from <= to && quantity >= 1 && quantity <= 500);
        state(bills.size() < YEARS);
        for (int day = from; day <= to; day++) {
            state(takenFrom(day, day) + quantity <= 500);
        }
        for (int day = from; day <= to; day++) {
            takes.add(new Take(bills.size(), day, quantity));
        }
        return taken(bills.size());
    }

    long close() {
        state(bills.size() < YEARS);
        long before = 0;
        for (long bill : bills) {
            before += bill;
        }
        bills.add(0L);
        long bill = books().dueInAll() - before;
        bills.set(bills.size() - 1, bill);
        return bill;
    }

    int closed() {
        return bills.size();
    }

    int taken(int year) {
        argument(isYear(year));
        int sum = 0;
        for (Take take : takes) {
            sum += take.year() == year ? take.quantity() : 0;
        }
        return sum;
    }

    int takenFrom(int from, int to) {
        argument(isDay(from) && isDay(to) && from <= to);
        int sum = 0;
        for (Take take : takes) {
            boolean counts = take.year() == bills.size() && take.day() >= from && take.day() <= to;
            sum += counts ? take.quantity() : 0;
        }
        return sum;
    }

    int price(int year) {
        argument(isYear(year));
        int price = 100;
        for (Review review : reviews) {
            price = review.year() <= year ? review.price() : price;
        }
        return price;
    }

    int least(int year) {
        argument(isYear(year));
        long days = 360 - excuses.getOrDefault(year, 0);
        return (int) Math.floorDiv(days * percent * quantity, 36000L);
    }

    int shortfall(int year) {
        return closedBooks(year).shortfall.get(year);
    }

    int madeUp(int year) {
        return closedBooks(year).madeUp.get(year);
    }

    int covered(int year) {
        return closedBooks(year).covered.get(year);
    }

    int surplus(int year) {
        return closedBooks(year).surplus.get(year);
    }

    long due(int year) {
        return closedBooks(year).due.get(year);
    }

    long bill(int year) {
        closedBooks(year);
        return bills.get(year);
    }

    int makeUpLeft(int year) {
        return Books.leftFrom(year, closedBooks(year).makeUpLots);
    }

    int surplusLeft(int year) {
        return Books.leftFrom(year, closedBooks(year).surplusLots);
    }

    int lapsed() {
        return books().lapsed;
    }

    long open() {
        long open = books().dueInAll();
        for (long bill : bills) {
            open -= bill;
        }
        return open;
    }

    private Books closedBooks(int year) {
        argument(isYear(year));
        state(year < bills.size());
        return books();
    }

    private Books books() {
        Books books = new Books();
        for (int year = 0; year < bills.size(); year++) {
            books.lapsed += removeLapsed(books.makeUpLots, year, makeUpYears);
            removeLapsed(books.surplusLots, year, surplusYears);
            int taken = taken(year);
            int gap = Math.max(0, least(year) - taken);
            int covered = 0;
            for (Lot lot : draw(books.surplusLots, gap)) {
                covered += lot.left;
            }
            int shortfall = gap - covered;
            int makeUp = 0;
            long amount = 0;
            for (Lot lot : draw(books.makeUpLots, Math.max(0, taken - least(year)))) {
                makeUp += lot.left;
                int more = price(year) - shortfallPrice(lot.origin);
                amount += more > 0 ? (long) more * lot.left : 0;
            }
            amount += (long) (taken - makeUp) * price(year);
            amount += (long) shortfall * shortfallPrice(year);
            int surplus = gap > 0 ? 0 : Math.max(0, taken - makeUp - quantity);
            books.makeUpLots.addLast(new Lot(year, shortfall));
            books.surplusLots.addLast(new Lot(year, surplus));
            books.shortfall.put(year, shortfall);
            books.madeUp.put(year, makeUp);
            books.covered.put(year, covered);
            books.surplus.put(year, surplus);
            books.due.put(year, amount);
        }
        return books;
    }

    private int shortfallPrice(int year) {
        return Math.floorDiv(price(year) * share, 100);
    }

    private static int removeLapsed(Deque<Lot> lots, int year, int yearsKept) {
        int lapsed = 0;
        for (Iterator<Lot> each = lots.iterator(); each.hasNext();) {
            Lot lot = each.next();
            if (year > lot.origin + yearsKept) {
                lapsed += lot.left;
                each.remove();
            }
        }
        return lapsed;
    }

    /** Takes so much out of the lots, the oldest first, and answers what came out of which. */
    private static List<Lot> draw(Deque<Lot> lots, int wanted) {
        List<Lot> drawn = new ArrayList<>();
        int missing = wanted;
        while (missing > 0 && !lots.isEmpty()) {
            Lot oldest = lots.peekFirst();
            if (oldest.left <= missing) {
                drawn.add(lots.removeFirst());
                missing -= oldest.left;
            } else {
                drawn.add(new Lot(oldest.origin, missing));
                oldest.left -= missing;
                missing = 0;
            }
        }
        return drawn;
    }

    private static boolean isYear(int year) {
        return year >= 0 && year < YEARS;
    }

    private static boolean isDay(int day) {
        return day >= 0 && day < 360;
    }

    private static void argument(boolean fits) {
        if (!fits) {
            throw new IllegalArgumentException();
        }
    }

    private static void state(boolean fits) {
        if (!fits) {
            throw new IllegalStateException();
        }
    }
}
