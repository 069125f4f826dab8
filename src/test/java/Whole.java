import java.util.ArrayList;
import java.util.List;

/**
 * All that calls can tell of an object, as a row of numbers, so that two objects can be compared.
 * The object is used up by it: clouds, findings and events are others behind it.
 */
final class Whole {
    /** The place of the number of the latest finding in the row. */
    static final int FINDING = 0;
    private static final int SIZE_FINDING = 5;

    private Whole() { }

    static List<Long> of(MarriedMap x) {
        List<Long> row = new ArrayList<>();
        row.add((long) x.count(8));
        for (int what = 0; what < 8; what++) {
            row.add((long) x.count(what));
        }
        row.add(x.digest());
        for (int event = 0; event < x.count(4); event++) {
            row.add((long) x.moved(event));
        }
        for (int week = 0; week < 52; week++) {
            row.add((long) x.cloud(week, 0));
        }
        for (int s = 0; s < 4; s++) {
            addSheet(row, x, s);
        }
        row.add((long) leastWeek(x));
        return row;
    }

    /** The first week in which an event may still come. */
    private static int leastWeek(MarriedMap x) {
        int week = 0;
        while (week < 52 && x.ends(week, 0, 0) == MarriedMap.BAD) {
            week++;
        }
        return week;
    }

    private static void addSheet(List<Long> row, MarriedMap x, int s) {
        for (int form = 0; form < 3; form++) {
            int i = 0;
            while (i <= 60 && addItem(row, x, s, form, i)) {
                i++;
            }
        }
        row.add((long) x.lose(s));
    }

    /** An item may be the least int itself, so the finding tells whether there is one. */
    private static boolean addItem(List<Long> row, MarriedMap x, int s, int form, int i) {
        int item = x.get(s, form, i);
        if (item != Integer.MIN_VALUE) {
            row.add((long) item);
            return true;
        }
        x.sheet(0, 0, -1);
        x.get(s, form, i);
        int finding = x.count(8);
        row.add(finding == SIZE_FINDING ? item : (long) -finding);
        return finding == SIZE_FINDING;
    }
}
