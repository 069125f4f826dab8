import java.util.ArrayList;
import java.util.List;

/**
 * A second program for the same document, as plain and as slow as can be: it tries every row of
 * weddings, and asks what would be by making another duchy of which it is so.
 */
final class Model {
    private static final int NONE = -1, BAD = -2, NOT = -3, FULL = -4;

    private record Event(int week, int kind, int one, int other, int hour) { }

    private record Survey(int land, int k, int width) { }

    private record Person(boolean man, int land, int height, int hat) {
        int shadow(int hour) {
            return (height + hat) * (1 + (hour > 12 ? hour - 12 : 12 - hour));
        }
    }

    /** Two who are wed, and what their wedding moved to which land. */
    private record Marriage(int one, int other, int moved, int taker) {
        boolean isOf(int person) {
            return one == person || other == person;
        }
    }

    private static final class State {
        final List<Integer> widths = new ArrayList<>();
        final List<Marriage> marriages = new ArrayList<>();
        final List<Integer> dead = new ArrayList<>();
        final int[] provinces = new int[12];
        final List<Integer> moved = new ArrayList<>();
        final List<Integer> against = new ArrayList<>();
        int nobodys = 0;

        Marriage marriageOf(int person) {
            for (Marriage marriage : marriages) {
                if (marriage.isOf(person)) {
                    return marriage;
                }
            }
            return null;
        }
    }

    private final String[] texts = {"", ""};
    private final boolean[] clouds = new boolean[52];
    private final List<Event> events = new ArrayList<>();
    private final List<Survey> surveys = new ArrayList<>();
    private final Object[] sheets = new Object[4];
    private int finding = 0;

    int type(int text, int b) {
        if (text < 0 || text > 1 || b < 0 || b > 255) {
            return BAD;
        }
        if (texts[text].length() == (text == 0 ? 20 : 60)) {
            return FULL;
        }
        texts[text] += (char) b;
        return texts[text].length();
    }

    void tell(String lands, String people) {
        texts[0] = lands;
        texts[1] = people;
    }

    int wipe(int text) {
        if (text < 0 || text > 1) {
            return BAD;
        }
        int had = texts[text].length();
        texts[text] = "";
        return had;
    }

    int fault(int text) {
        if (text < 0 || text > 1) {
            return BAD;
        }
        String form = text == 0 ? "99;".repeat(6) : "slhk;".repeat(12);
        String typed = texts[text];
        for (int i = 0; i < typed.length(); i++) {
            if (i >= form.length() || !fits(typed.charAt(i), form.charAt(i))) {
                return i;
            }
        }
        int item = text == 0 ? 3 : 5;
        return typed.isEmpty() || typed.length() % item == item - 1 ? NONE : typed.length();
    }

    private boolean fits(char b, char form) {
        switch (form) {
            case '9':
            case 'k':
                return "0123456789".indexOf(b) >= 0;
            case 's':
                return "mw".indexOf(b) >= 0;
            case 'l':
                return "012345".substring(0, landNumber()).indexOf(b) >= 0;
            case 'h':
                return "123456789".indexOf(b) >= 0;
            default:
                return b == ';';
        }
    }

    private int landNumber() {
        return fault(0) != NONE || texts[0].isEmpty() ? 0 : texts[0].split(";").length;
    }

    private List<Person> people() {
        List<Person> people = new ArrayList<>();
        if (fault(1) == NONE && !texts[1].isEmpty()) {
            for (String p : texts[1].split(";")) {
                people.add(new Person(p.charAt(0) == 'm', p.charAt(1) - '0', p.charAt(2) - '0', p.charAt(3) - '0'));
            }
        }
        return people;
    }

    private boolean isLand(int land) {
        return land >= 0 && land < landNumber();
    }

    private boolean isPerson(int person) {
        return person >= 0 && person < people().size();
    }

    int person(int person, int what) {
        if (!isPerson(person) || what < 0 || what > 3) {
            return BAD;
        }
        Person p = people().get(person);
        return new int[] {p.man() ? 0 : 1, p.land(), p.height(), p.hat()}[what];
    }

    int shadow(int person, int hour) {
        return isPerson(person) && hour >= 6 && hour <= 18 ? people().get(person).shadow(hour) : BAD;
    }

    int cloud(int week, int v) {
        if (week < 0 || week > 51 || v < 0 || v > 1) {
            return BAD;
        }
        int was = clouds[week] ? 1 : 0;
        clouds[week] = v == 1;
        return was;
    }

    private boolean isWeek(int week) {
        return week >= 0 && week <= 51 && (events.isEmpty() || week >= events.get(events.size() - 1).week());
    }

    private static boolean isCouple(int a, int b, int hour) {
        return a >= 0 && a <= 11 && b >= 0 && b <= 11 && hour >= 6 && hour <= 18;
    }

    int wed(int week, int a, int b, int hour) {
        if (!isWeek(week) || !isCouple(a, b, hour)) {
            return BAD;
        }
        if (events.size() == 24) {
            return FULL;
        }
        events.add(new Event(week, 2, a, b, hour));
        return events.size();
    }

    int ends(int week, int kind, int person) {
        if (!isWeek(week) || kind < 0 || kind > 1 || person < 0 || person > 11) {
            return BAD;
        }
        if (events.size() == 24) {
            return FULL;
        }
        events.add(new Event(week, kind, person, -1, 12));
        return events.size();
    }

    int read(int s, int week) {
        if (s < 0 || s > 3 || !isWeek(week)) {
            return BAD;
        }
        if (sheets[s] == null) {
            return found(1);
        }
        int number = 0;
        while (3 * number + 2 < sizeOf(s)
                && wed(week, item(s, 3 * number), item(s, 3 * number + 1), item(s, 3 * number + 2)) > 0) {
            number++;
        }
        return number;
    }

    int undo() {
        if (events.isEmpty()) {
            return NOT;
        }
        events.remove(events.size() - 1);
        return events.size();
    }

    private State behind(List<Event> played) {
        State state = new State();
        for (int land = 0; land < landNumber(); land++) {
            state.widths.add(Integer.parseInt(texts[0].split(";")[land]));
        }
        List<Person> people = people();
        for (int i = 0; i < played.size(); i++) {
            int moved = happen(state, people, played.get(i));
            if (moved == Integer.MIN_VALUE) {
                state.against.add(i);
            }
            state.moved.add(moved == Integer.MIN_VALUE ? 0 : moved);
        }
        return state;
    }

    private State behind(int k) {
        return behind(events.subList(0, k));
    }

    /** What it moved; the least int if it is against the law. */
    private int happen(State state, List<Person> people, Event event) {
        int one = event.one();
        if (event.kind() == 2) {
            return mayWed(state, people, one, event.other())
                    ? marry(state, people, one, event.other(), clouds[event.week()] ? 0 : 1, event.hour())
                    : Integer.MIN_VALUE;
        }
        Marriage marriage = state.marriageOf(one);
        boolean isThere = one < people.size() && !state.dead.contains(one);
        if (!isThere || event.kind() == 0 && marriage == null) {
            return Integer.MIN_VALUE;
        }
        if (event.kind() == 1) {
            state.dead.add(one);
        }
        if (marriage == null) {
            return 0;
        }
        int gone = Math.min(marriage.moved(), state.widths.get(marriage.taker()));
        state.widths.set(marriage.taker(), state.widths.get(marriage.taker()) - gone);
        state.marriages.remove(marriage);
        if (event.kind() == 0) {
            state.nobodys += gone;
        } else {
            state.provinces[marriage.one() == one ? marriage.other() : marriage.one()] += gone;
        }
        return gone;
    }

    private static boolean mayWed(State state, List<Person> people, int a, int b) {
        if (a >= people.size() || b >= people.size()) {
            return false;
        }
        boolean areThere = !state.dead.contains(a) && !state.dead.contains(b);
        boolean areFree = state.marriageOf(a) == null && state.marriageOf(b) == null;
        int apart = people.get(a).land() - people.get(b).land();
        return areThere && areFree && people.get(a).man() != people.get(b).man() && (apart == 1 || apart == -1);
    }

    private static int marry(State state, List<Person> people, int a, int b, int sun, int hour) {
        Person longer = people.get(a);
        Person shorter = people.get(b);
        if (longer.shadow(hour) < shorter.shadow(hour)) {
            longer = people.get(b);
            shorter = people.get(a);
        }
        int difference = sun * (longer.shadow(hour) - shorter.shadow(hour));
        int moved = Math.min(difference, state.widths.get(shorter.land()));
        state.widths.set(longer.land(), state.widths.get(longer.land()) + moved);
        state.widths.set(shorter.land(), state.widths.get(shorter.land()) - moved);
        state.marriages.add(new Marriage(a, b, moved, longer.land()));
        return longer.land() < shorter.land() ? moved : -moved;
    }

    private static State copyOf(State state) {
        State copy = new State();
        copy.widths.addAll(state.widths);
        copy.marriages.addAll(state.marriages);
        copy.dead.addAll(state.dead);
        return copy;
    }

    int judged() {
        List<Integer> against = behind(events).against;
        return against.isEmpty() ? NONE : against.get(0);
    }

    int moved(int event) {
        return event < 0 || event >= events.size() ? -10002 : behind(events).moved.get(event);
    }

    private boolean isBehind(int k) {
        return k >= 0 && k <= events.size();
    }

    int width(int land, int k) {
        return isLand(land) && isBehind(k) ? behind(k).widths.get(land) : BAD;
    }

    int state(int person, int k, int what) {
        if (!isPerson(person) || !isBehind(k) || what < 0 || what > 2) {
            return BAD;
        }
        State state = behind(k);
        Marriage marriage = state.marriageOf(person);
        if (what == 0) {
            return marriage == null ? NONE : marriage.one() + marriage.other() - person;
        }
        return what == 1 ? state.provinces[person] : state.dead.contains(person) ? 0 : 1;
    }

    int nobody(int k) {
        return isBehind(k) ? behind(k).nobodys : BAD;
    }

    /** The widest by so many weddings at most, in whatever order, those that lose too. */
    private int widest(State state, List<Person> people, int land, int weddings) {
        int widest = state.widths.get(land);
        if (weddings == 0) {
            return widest;
        }
        for (int a = 0; a < people.size(); a++) {
            for (int b = 0; b < people.size(); b++) {
                if (people.get(a).land() == land && mayWed(state, people, a, b)) {
                    State next = copyOf(state);
                    marry(next, people, a, b, 1, 6);
                    widest = Math.max(widest, widest(next, people, land, weddings - 1));
                }
            }
        }
        return widest;
    }

    int reach(int land, int width) {
        if (!isLand(land) || width < 0 || width > 999) {
            return BAD;
        }
        for (int weddings = 0; weddings <= 6; weddings++) {
            if (widest(behind(events), people(), land, weddings) >= width) {
                return weddings;
            }
        }
        return NONE;
    }

    int grows(int land, int k) {
        return isLand(land) && k >= 0 && k <= 4 ? widest(behind(events), people(), land, k) : BAD;
    }

    int leave() {
        State state = behind(events);
        List<Person> people = people();
        int pairs = 0;
        for (Marriage one : state.marriages) {
            for (Marriage other : state.marriages) {
                if (one != other) {
                    pairs += leaves(people, manOf(people, one), womanOf(people, one),
                            manOf(people, other), womanOf(people, other)) ? 1 : 0;
                }
            }
        }
        return pairs;
    }

    private static int manOf(List<Person> people, Marriage marriage) {
        return people.get(marriage.one()).man() ? marriage.one() : marriage.other();
    }

    private static int womanOf(List<Person> people, Marriage marriage) {
        return people.get(marriage.one()).man() ? marriage.other() : marriage.one();
    }

    private static boolean leaves(List<Person> people, int man, int wife, int husband, int woman) {
        int apart = people.get(man).land() - people.get(woman).land();
        return apart * apart == 1 && people.get(man).height() < people.get(husband).height()
                && people.get(woman).height() < people.get(wife).height();
    }

    int survey(int land, int k, int width) {
        if (land < 0 || land > 5 || k < 0 || k > 24 || width < 0 || width > 999) {
            return BAD;
        }
        if (surveys.size() == 8) {
            return FULL;
        }
        surveys.add(new Survey(land, k, width));
        return surveys.size();
    }

    int forget() {
        int had = surveys.size();
        surveys.clear();
        return had;
    }

    int forged(int person) {
        if (!isPerson(person)) {
            return BAD;
        }
        String told = texts[1];
        int bits = 0;
        for (int height = 1; height <= 9; height++) {
            texts[1] = told.substring(0, 5 * person + 2) + height + told.substring(5 * person + 3);
            boolean allSo = true;
            for (Survey survey : surveys) {
                int width = width(survey.land(), survey.k());
                allSo &= width == BAD || width == survey.width();
            }
            bits += allSo ? 1 << (height - 1) : 0;
        }
        texts[1] = told;
        return bits;
    }

    int unlike() {
        int unlike = 0;
        for (Survey survey : surveys) {
            unlike += width(survey.land(), survey.k()) == survey.width() ? 0 : 1;
        }
        return unlike;
    }

    int without(int event, int land) {
        if (event < 0 || event >= events.size() || !isLand(land)) {
            return BAD;
        }
        List<Event> others = new ArrayList<>(events);
        others.remove(event);
        return behind(others).widths.get(land);
    }

    int blame(int land) {
        if (!isLand(land)) {
            return BAD;
        }
        int blamed = NONE;
        for (int event = events.size() - 1; event >= 0; event--) {
            int least = blamed == NONE ? width(land, events.size()) + 1 : without(blamed, land);
            if (without(event, land) >= least) {
                blamed = event;
            }
        }
        return blamed;
    }

    int lords(int a, int b, int what) {
        if (!isLand(a) || !isLand(b) || a != b + 1 && b != a + 1 || what < 0 || what > 1) {
            return -10002;
        }
        State state = behind(events);
        List<Person> people = people();
        if (freeIn(state, people, a) > 4 || freeIn(state, people, b) > 4) {
            return -10004;
        }
        return ends(state, people, a, b, true)[what];
    }

    private static int freeIn(State state, List<Person> people, int land) {
        int free = 0;
        for (int person = 0; person < people.size(); person++) {
            boolean isFree = !state.dead.contains(person) && state.marriageOf(person) == null;
            free += isFree && people.get(person).land() == land ? 1 : 0;
        }
        return free;
    }

    /** What it is in the end for the first, and the wedding by which it becomes so. */
    private static int[] ends(State state, List<Person> people, int a, int b, boolean firstLord) {
        int[] best = {state.widths.get(a) - state.widths.get(b), NONE};
        for (int one = 0; one < people.size(); one++) {
            for (int other = 0; other < people.size(); other++) {
                boolean areTheirs = people.get(one).land() == a && people.get(other).land() == b;
                if (!areTheirs || !mayWed(state, people, one, other)) {
                    continue;
                }
                State next = copyOf(state);
                marry(next, people, one, other, 1, 6);
                int end = ends(next, people, a, b, !firstLord)[0];
                if (best[1] == NONE || firstLord && end > best[0] || !firstLord && end < best[0]) {
                    best = new int[] {end, 12 * one + other};
                }
            }
        }
        return best;
    }

    private int found(int number) {
        finding = number;
        return -10 - number;
    }

    private int sizeOf(int s) {
        return java.lang.reflect.Array.getLength(sheets[s]);
    }

    private int formOf(int s) {
        return sheets[s] instanceof byte[] ? 0 : sheets[s] instanceof short[] ? 1 : 2;
    }

    private int item(int s, int i) {
        return java.lang.reflect.Array.getInt(sheets[s], i);
    }

    private void put(int s, int i, int v) {
        if (sheets[s] instanceof byte[] bytes) {
            bytes[i] = (byte) v;
        } else if (sheets[s] instanceof short[] shorts) {
            shorts[i] = (short) v;
        } else {
            ((int[]) sheets[s])[i] = v;
        }
    }

    int sheet(int s, int form, int n) {
        if (s < 0 || s > 3 || form < 0 || form > 2 || n > 60) {
            return BAD;
        }
        if (n < 0) {
            return found(5);
        }
        sheets[s] = form == 0 ? new byte[n] : form == 1 ? new short[n] : new int[n];
        return n;
    }

    int lose(int s) {
        if (s < 0 || s > 3) {
            return BAD;
        }
        if (sheets[s] == null) {
            return found(1);
        }
        int had = sizeOf(s);
        sheets[s] = null;
        return had;
    }

    /** 0, or the refusal. */
    private int refused(int s, int form, int i) {
        if (s < 0 || s > 3 || form < 0 || form > 2) {
            return BAD;
        }
        if (sheets[s] == null) {
            return found(1);
        }
        if (formOf(s) != form) {
            return found(3);
        }
        return i < 0 || i >= sizeOf(s) ? found(2) : 0;
    }

    int lay(int s, int form, int i, int v) {
        int refused = refused(s, form, i);
        if (refused != 0) {
            return refused;
        }
        put(s, i, v);
        return 1;
    }

    int get(int s, int form, int i) {
        return refused(s, form, i) != 0 ? Integer.MIN_VALUE : item(s, i);
    }

    int copy(int s, int i, int t, int j, int n) {
        if (s < 0 || s > 3 || t < 0 || t > 3) {
            return BAD;
        }
        if (sheets[s] == null || sheets[t] == null) {
            return found(1);
        }
        if (formOf(s) != formOf(t)) {
            return found(4);
        }
        if (i < 0 || j < 0 || n < 0 || (long) i + n > sizeOf(s) || (long) j + n > sizeOf(t)) {
            return found(2);
        }
        int[] items = new int[n];
        for (int at = 0; at < n; at++) {
            items[at] = item(s, i + at);
        }
        for (int at = 0; at < n; at++) {
            put(t, j + at, items[at]);
        }
        return 1;
    }

    int write(int k, int s) {
        if (!isBehind(k) || s < 0 || s > 3) {
            return BAD;
        }
        if (sheets[s] == null) {
            return found(1);
        }
        int number = 0;
        while (number < landNumber() && number < sizeOf(s)) {
            put(s, number, width(number, k));
            number++;
        }
        return number;
    }

    int count(int what) {
        int clouded = 0;
        for (boolean cloud : clouds) {
            clouded += cloud ? 1 : 0;
        }
        int[] counts = {landNumber(), people().size(), texts[0].length(), texts[1].length(), events.size(),
            behind(events).against.size(), clouded, surveys.size(), finding};
        return what < 0 || what >= counts.length ? BAD : counts[what];
    }

    long digest() {
        List<Integer> row = new ArrayList<>();
        for (int what = 0; what <= 7; what++) {
            row.add(count(what));
        }
        row.addAll(List.of(fault(0), fault(1), judged()));
        for (int event = 0; event < events.size(); event++) {
            row.addAll(List.of(moved(event), without(event, 0)));
        }
        for (int land = 0; land < landNumber(); land++) {
            row.addAll(List.of(width(land, events.size()), reach(land, 150), grows(land, 2), blame(land),
                    lords(land, land + 1, 0), lords(land, land + 1, 1)));
        }
        for (int p = 0; p < people().size(); p++) {
            row.addAll(List.of(person(p, 0), person(p, 1), person(p, 2), person(p, 3), shadow(p, 6),
                    state(p, events.size(), 0), state(p, events.size(), 1), state(p, events.size(), 2), forged(p)));
        }
        row.addAll(List.of(nobody(events.size()), leave(), unlike()));
        long h = 17;
        for (int answer : row) {
            h = 31 * h + answer;
        }
        return h;
    }
}
