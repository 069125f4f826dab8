import java.util.Arrays;

/**
 * A duchy of lands in a row, whose borders are moved by the shadows of those who marry.
 *
 * <p>Nothing that follows from texts, clouds and events is kept: each answer plays the events
 * again, so that none can be older than what it follows from.
 */
public final class MarriedMap {
    public static final int NONE = -1, BAD = -2, NOT = -3, FULL = -4;

    private static final int NO_REFUSAL = 0;
    private static final int ANY_NUMBER = -10000;
    private static final int NO_ITEM = Integer.MIN_VALUE;

    private static final int MOST_LAND_BYTES = 20;
    private static final int MOST_PEOPLE_BYTES = 60;
    private static final int MOST_LANDS = 6;
    private static final int MOST_PEOPLE = 12;
    /** Twelve people make six weddings, and are no more couples than six men with six women. */
    private static final int MOST_WEDDINGS = 6;
    private static final int MOST_COUPLES = 36;
    private static final int MOST_EVENTS = 24;
    private static final int MOST_SURVEYS = 8;
    private static final int MOST_ITEMS = 60;
    private static final int MOST_LORDS_PEOPLE = 4;

    private static final int WEEKS = 52;
    private static final int FIRST_HOUR = 6;
    private static final int NOON = 12;
    private static final int LAST_HOUR = 18;
    private static final int GREATEST_HEIGHT = 9;
    private static final int WIDEST_ASKED = 999;
    private static final int MOST_GROWING = 4;

    private static final int SHEETS = 4;
    private static final int FORMS = 3;

    private static final int FINDING = -10;
    private static final int NULL = 1;
    private static final int INDEX = 2;
    private static final int CAST = 3;
    private static final int STORE = 4;
    private static final int SIZE = 5;

    private final Text landsText = new Text(MOST_LAND_BYTES);
    private final Text peopleText = new Text(MOST_PEOPLE_BYTES);
    private final Lands lands = new Lands();
    private final People people = new People();
    private final Sky sky = new Sky();
    private final Events events = new Events();
    private final World world = new World(lands, people, sky, events);
    private final Courtship courtship = new Courtship(world, people);
    private final Turns turns = new Turns(world, people);
    private final Surveys surveys = new Surveys();
    private final Sheet[] sheets = new Sheet[SHEETS];
    private int latestFinding = 0;

    public MarriedMap() {
        for (int s = 0; s < SHEETS; s++) {
            sheets[s] = new Sheet();
        }
    }

    // ---- lands, people

    public int type(int text, int b) {
        Text typed = textAt(text);
        if (typed == null || !isWithin(b, 0, 255)) {
            return BAD;
        }
        if (typed.isFull()) {
            return FULL;
        }
        typed.append(b);
        parseTexts();
        return typed.length();
    }

    public int wipe(int text) {
        Text wiped = textAt(text);
        if (wiped == null) {
            return BAD;
        }
        int had = wiped.length();
        wiped.clear();
        parseTexts();
        return had;
    }

    public int fault(int text) {
        if (text == 0) {
            return lands.faultAt();
        }
        return text == 1 ? people.faultAt() : BAD;
    }

    public int person(int person, int what) {
        if (!people.has(person)) {
            return BAD;
        }
        switch (what) {
            case 0:
                return people.sexOf(person);
            case 1:
                return people.homeOf(person);
            case 2:
                return people.heightOf(person);
            case 3:
                return people.hatOf(person);
            default:
                return BAD;
        }
    }

    public int shadow(int person, int hour) {
        return people.has(person) && isHour(hour) ? people.shadowOf(person, hour) : BAD;
    }

    public int cloud(int week, int v) {
        if (!isWithin(week, 0, WEEKS - 1) || !isWithin(v, 0, 1)) {
            return BAD;
        }
        int was = sky.cloudsIn(week);
        sky.setClouds(week, v);
        return was;
    }

    // ---- events

    public int wed(int week, int a, int b, int hour) {
        if (!events.mayComeIn(week) || !mayBeWedding(a, b, hour)) {
            return BAD;
        }
        if (events.isFull()) {
            return FULL;
        }
        events.add(week, Events.WEDDING, a, b, hour);
        return events.number();
    }

    public int ends(int week, int kind, int person) {
        if (!events.mayComeIn(week) || !isWithin(kind, 0, 1) || !isPersonNumber(person)) {
            return BAD;
        }
        if (events.isFull()) {
            return FULL;
        }
        events.add(week, kind == 0 ? Events.PARTING : Events.DEATH, person, NONE, NOON);
        return events.number();
    }

    public int read(int s, int week) {
        Sheet sheet = sheetAt(s);
        if (sheet == null || !events.mayComeIn(week)) {
            return BAD;
        }
        if (sheet.isLost()) {
            return finding(NULL);
        }
        int added = 0;
        for (int i = 0; i + 2 < sheet.size(); i += 3) {
            int a = sheet.itemAt(i);
            int b = sheet.itemAt(i + 1);
            int hour = sheet.itemAt(i + 2);
            if (events.isFull() || !mayBeWedding(a, b, hour)) {
                break;
            }
            events.add(week, Events.WEDDING, a, b, hour);
            added++;
        }
        return added;
    }

    public int undo() {
        if (events.number() == 0) {
            return NOT;
        }
        events.dropLast();
        return events.number();
    }

    public int judged() {
        world.play(events.number(), NONE);
        return world.firstAgainstLaw();
    }

    public int moved(int event) {
        if (!events.has(event)) {
            return ANY_NUMBER + BAD;
        }
        world.play(event + 1, NONE);
        return world.movedLast();
    }

    public int width(int land, int k) {
        if (!lands.has(land) || !mayBeBehind(k)) {
            return BAD;
        }
        world.play(k, NONE);
        return world.widthOf(land);
    }

    public int state(int person, int k, int what) {
        if (!people.has(person) || !mayBeBehind(k)) {
            return BAD;
        }
        world.play(k, NONE);
        switch (what) {
            case 0:
                return world.partnerOf(person);
            case 1:
                return world.provinceOf(person);
            case 2:
                return world.isAlive(person) ? 1 : 0;
            default:
                return BAD;
        }
    }

    public int nobody(int k) {
        if (!mayBeBehind(k)) {
            return BAD;
        }
        world.play(k, NONE);
        return world.nobodys();
    }

    // ---- whom to marry

    public int reach(int land, int width) {
        if (!lands.has(land) || !isWithin(width, 0, WIDEST_ASKED)) {
            return BAD;
        }
        world.play(events.number(), NONE);
        return courtship.fewestFor(land, width);
    }

    public int grows(int land, int k) {
        if (!lands.has(land) || !isWithin(k, 0, MOST_GROWING)) {
            return BAD;
        }
        world.play(events.number(), NONE);
        return courtship.widestBy(land, k);
    }

    public int leave() {
        world.play(events.number(), NONE);
        int pairs = 0;
        for (int man = 0; man < people.number(); man++) {
            for (int woman = 0; woman < people.number(); woman++) {
                if (people.sexOf(man) == People.MAN && wouldLeave(man, woman)) {
                    pairs++;
                }
            }
        }
        return pairs;
    }

    // ---- surveys, blame

    public int survey(int land, int k, int width) {
        if (!isWithin(land, 0, MOST_LANDS - 1) || !isWithin(k, 0, MOST_EVENTS)
                || !isWithin(width, 0, WIDEST_ASKED)) {
            return BAD;
        }
        if (surveys.isFull()) {
            return FULL;
        }
        surveys.add(land, k, width);
        return surveys.number();
    }

    public int forget() {
        int had = surveys.number();
        surveys.clear();
        return had;
    }

    public int forged(int person) {
        if (!people.has(person)) {
            return BAD;
        }
        int told = people.heightOf(person);
        int bits = 0;
        for (int height = 1; height <= GREATEST_HEIGHT; height++) {
            people.setHeight(person, height);
            if (surveys.otherwiseIn(world, lands, events) == 0) {
                bits |= 1 << (height - 1);
            }
        }
        people.setHeight(person, told);
        return bits;
    }

    public int unlike() {
        return surveys.unaskable(lands, events) + surveys.otherwiseIn(world, lands, events);
    }

    public int without(int event, int land) {
        if (!events.has(event) || !lands.has(land)) {
            return BAD;
        }
        world.play(events.number(), event);
        return world.widthOf(land);
    }

    public int blame(int land) {
        if (!lands.has(land)) {
            return BAD;
        }
        world.play(events.number(), NONE);
        int widest = world.widthOf(land);
        int blamed = NONE;
        for (int event = 0; event < events.number(); event++) {
            world.play(events.number(), event);
            if (world.widthOf(land) > widest) {
                widest = world.widthOf(land);
                blamed = event;
            }
        }
        return blamed;
    }

    // ---- in turn

    public int lords(int a, int b, int what) {
        if (!lands.has(a) || !lands.has(b) || Math.abs(a - b) != 1 || !isWithin(what, 0, 1)) {
            return ANY_NUMBER + BAD;
        }
        world.play(events.number(), NONE);
        if (world.freeIn(a) > MOST_LORDS_PEOPLE || world.freeIn(b) > MOST_LORDS_PEOPLE) {
            return ANY_NUMBER + FULL;
        }
        int end = turns.playOut(a, b);
        return what == 0 ? end : turns.firstWedding();
    }

    // ---- sheets

    public int sheet(int s, int form, int n) {
        Sheet made = sheetAt(s);
        if (made == null || !isForm(form) || n > MOST_ITEMS) {
            return BAD;
        }
        if (n < 0) {
            return finding(SIZE);
        }
        made.renew(form, n);
        return n;
    }

    public int lose(int s) {
        Sheet lost = sheetAt(s);
        if (lost == null) {
            return BAD;
        }
        if (lost.isLost()) {
            return finding(NULL);
        }
        int had = lost.size();
        lost.drop();
        return had;
    }

    public int lay(int s, int form, int i, int v) {
        Sheet laid = sheetAt(s);
        if (laid == null || !isForm(form)) {
            return BAD;
        }
        int refusal = itemRefusal(laid, form, i);
        if (refusal != NO_REFUSAL) {
            return refusal;
        }
        laid.put(i, v);
        return 1;
    }

    public int get(int s, int form, int i) {
        Sheet asked = sheetAt(s);
        if (asked == null || !isForm(form) || itemRefusal(asked, form, i) != NO_REFUSAL) {
            return NO_ITEM;
        }
        return asked.itemAt(i);
    }

    public int copy(int s, int i, int t, int j, int n) {
        Sheet from = sheetAt(s);
        Sheet to = sheetAt(t);
        if (from == null || to == null) {
            return BAD;
        }
        if (from.isLost() || to.isLost()) {
            return finding(NULL);
        }
        if (from.form() != to.form()) {
            return finding(STORE);
        }
        if (!from.hasSpan(i, n) || !to.hasSpan(j, n)) {
            return finding(INDEX);
        }
        to.take(j, from, i, n);
        return 1;
    }

    public int write(int k, int s) {
        Sheet written = sheetAt(s);
        if (written == null || !mayBeBehind(k)) {
            return BAD;
        }
        if (written.isLost()) {
            return finding(NULL);
        }
        world.play(k, NONE);
        int number = Math.min(written.size(), lands.number());
        for (int land = 0; land < number; land++) {
            written.put(land, world.widthOf(land));
        }
        return number;
    }

    public int count(int what) {
        switch (what) {
            case 0:
                return lands.number();
            case 1:
                return people.number();
            case 2:
                return landsText.length();
            case 3:
                return peopleText.length();
            case 4:
                return events.number();
            case 5:
                world.play(events.number(), NONE);
                return world.againstLaw();
            case 6:
                return sky.cloudedWeeks();
            case 7:
                return surveys.number();
            case 8:
                return latestFinding;
            default:
                return BAD;
        }
    }

    public long digest() {
        long h = 17;
        for (int what = 0; what <= 7; what++) {
            h = 31 * h + count(what);
        }
        h = 31 * h + fault(0);
        h = 31 * h + fault(1);
        h = 31 * h + judged();
        for (int event = 0; event < events.number(); event++) {
            h = 31 * h + moved(event);
            h = 31 * h + without(event, 0);
        }
        for (int land = 0; land < lands.number(); land++) {
            h = 31 * h + width(land, events.number());
            h = 31 * h + reach(land, 150);
            h = 31 * h + grows(land, 2);
            h = 31 * h + blame(land);
            h = 31 * h + lords(land, land + 1, 0);
            h = 31 * h + lords(land, land + 1, 1);
        }
        for (int person = 0; person < people.number(); person++) {
            for (int what = 0; what <= 3; what++) {
                h = 31 * h + person(person, what);
            }
            h = 31 * h + shadow(person, FIRST_HOUR);
            for (int what = 0; what <= 2; what++) {
                h = 31 * h + state(person, events.number(), what);
            }
            h = 31 * h + forged(person);
        }
        h = 31 * h + nobody(events.number());
        h = 31 * h + leave();
        return 31 * h + unlike();
    }

    private static boolean isWithin(int number, int least, int most) {
        return number >= least && number <= most;
    }

    private static boolean isHour(int hour) {
        return isWithin(hour, FIRST_HOUR, LAST_HOUR);
    }

    private static boolean isPersonNumber(int person) {
        return isWithin(person, 0, MOST_PEOPLE - 1);
    }

    private static boolean isForm(int form) {
        return isWithin(form, 0, FORMS - 1);
    }

    private static boolean mayBeWedding(int a, int b, int hour) {
        return isPersonNumber(a) && isPersonNumber(b) && isHour(hour);
    }

    private boolean mayBeBehind(int k) {
        return isWithin(k, 0, events.number());
    }

    private Text textAt(int text) {
        if (text == 0) {
            return landsText;
        }
        return text == 1 ? peopleText : null;
    }

    private Sheet sheetAt(int s) {
        return isWithin(s, 0, SHEETS - 1) ? sheets[s] : null;
    }

    /** People live in lands as these are told now, so both are parsed whichever has changed. */
    private void parseTexts() {
        lands.parse(landsText);
        people.parse(peopleText, lands.number());
    }

    private boolean wouldLeave(int man, int woman) {
        int wife = world.partnerOf(man);
        int husband = world.partnerOf(woman);
        return wife != NONE && husband != NONE && wife != woman
                && people.areMatch(man, woman)
                && people.heightOf(man) < people.heightOf(husband)
                && people.heightOf(woman) < people.heightOf(wife);
    }

    private int itemRefusal(Sheet sheet, int form, int i) {
        if (sheet.isLost()) {
            return finding(NULL);
        }
        if (sheet.form() != form) {
            return finding(CAST);
        }
        return sheet.hasItem(i) ? NO_REFUSAL : finding(INDEX);
    }

    private int finding(int number) {
        latestFinding = number;
        return FINDING - number;
    }

    /** The bytes of a text. */
    private static final class Text {
        private final int[] bytes;
        private int length = 0;

        Text(int room) {
            bytes = new int[Math.max(room, 0)];
        }

        int length() {
            return length;
        }

        boolean isFull() {
            return length >= bytes.length;
        }

        void append(int b) {
            if (!isFull()) {
                bytes[length] = b;
                length++;
            }
        }

        void clear() {
            length = 0;
        }

        int at(int i) {
            return i >= 0 && i < length ? bytes[i] : NONE;
        }

        int figureAt(int i) {
            int b = at(i);
            return b >= '0' && b <= '9' ? b - '0' : NONE;
        }
    }

    /** The lands as the text tells them: two figures each, then a ; ahead of the next. */
    private static final class Lands {
        private static final int STEP = 3;

        private final int[] widths = new int[MOST_LANDS];
        private int number = 0;
        private int faultAt = NONE;

        int number() {
            return number;
        }

        int faultAt() {
            return faultAt;
        }

        boolean has(int land) {
            return land >= 0 && land < number;
        }

        int toldWidth(int land) {
            return has(land) ? widths[land] : 0;
        }

        void parse(Text text) {
            faultAt = firstFault(text);
            number = faultAt == NONE ? Math.min((text.length() + 1) / STEP, MOST_LANDS) : 0;
            for (int land = 0; land < number; land++) {
                int at = STEP * land;
                widths[land] = 10 * text.figureAt(at) + text.figureAt(at + 1);
            }
        }

        private static int firstFault(Text text) {
            int length = text.length();
            for (int i = 0; i < length; i++) {
                if (!goesOn(text, i)) {
                    return i;
                }
            }
            return length == 0 || length % STEP == STEP - 1 ? NONE : length;
        }

        private static boolean goesOn(Text text, int i) {
            if (i % STEP == STEP - 1) {
                return text.at(i) == ';';
            }
            return i / STEP < MOST_LANDS && text.figureAt(i) != NONE;
        }
    }

    /** The people as the text tells them: a letter and three figures each, then a ; ahead of the next. */
    private static final class People {
        static final int MAN = 0;
        static final int WOMAN = 1;
        private static final int STEP = 5;

        private final int[] sexes = new int[MOST_PEOPLE];
        private final int[] homes = new int[MOST_PEOPLE];
        private final int[] heights = new int[MOST_PEOPLE];
        private final int[] hats = new int[MOST_PEOPLE];
        private int number = 0;
        private int faultAt = NONE;

        int number() {
            return number;
        }

        int faultAt() {
            return faultAt;
        }

        boolean has(int person) {
            return person >= 0 && person < number;
        }

        int sexOf(int person) {
            return has(person) ? sexes[person] : NONE;
        }

        int homeOf(int person) {
            return has(person) ? homes[person] : NONE;
        }

        int heightOf(int person) {
            return has(person) ? heights[person] : 0;
        }

        int hatOf(int person) {
            return has(person) ? hats[person] : 0;
        }

        void setHeight(int person, int height) {
            if (has(person)) {
                heights[person] = height;
            }
        }

        int shadowOf(int person, int hour) {
            return has(person) ? (heights[person] + hats[person]) * (1 + Math.abs(hour - NOON)) : 0;
        }

        /** Whether two are such as the law lets marry, whatever has become of them. */
        boolean areMatch(int one, int other) {
            if (one < 0 || one >= number || other < 0 || other >= number) {
                return false;
            }
            int apart = homes[one] - homes[other];
            return sexes[one] != sexes[other] && (apart == 1 || apart == -1);
        }

        void parse(Text text, int landNumber) {
            faultAt = firstFault(text, landNumber);
            number = faultAt == NONE ? Math.min((text.length() + 1) / STEP, MOST_PEOPLE) : 0;
            for (int person = 0; person < number; person++) {
                int at = STEP * person;
                sexes[person] = text.at(at) == 'm' ? MAN : WOMAN;
                homes[person] = text.figureAt(at + 1);
                heights[person] = text.figureAt(at + 2);
                hats[person] = text.figureAt(at + 3);
            }
        }

        private static int firstFault(Text text, int landNumber) {
            int length = text.length();
            for (int i = 0; i < length; i++) {
                if (!goesOn(text, i, landNumber)) {
                    return i;
                }
            }
            return length == 0 || length % STEP == STEP - 1 ? NONE : length;
        }

        private static boolean goesOn(Text text, int i, int landNumber) {
            int figure = text.figureAt(i);
            switch (i % STEP) {
                case 0:
                    return i / STEP < MOST_PEOPLE && (text.at(i) == 'm' || text.at(i) == 'w');
                case 1:
                    return figure != NONE && figure < landNumber;
                case 2:
                    return figure >= 1;
                case 3:
                    return figure != NONE;
                default:
                    return text.at(i) == ';';
            }
        }
    }

    /** In which weeks there are clouds. */
    private static final class Sky {
        private final int[] clouds = new int[WEEKS];

        int cloudsIn(int week) {
            return isWithin(week, 0, WEEKS - 1) ? clouds[week] : 0;
        }

        void setClouds(int week, int v) {
            if (isWithin(week, 0, WEEKS - 1)) {
                clouds[week] = v;
            }
        }

        int cloudedWeeks() {
            int clouded = 0;
            for (int v : clouds) {
                clouded += v;
            }
            return clouded;
        }
    }

    /** The weddings, partings and deaths as they were told, whether the law knows them or not. */
    private static final class Events {
        static final int WEDDING = 0;
        static final int PARTING = 1;
        static final int DEATH = 2;

        private final int[] weeks = new int[MOST_EVENTS];
        private final int[] kinds = new int[MOST_EVENTS];
        private final int[] ones = new int[MOST_EVENTS];
        private final int[] others = new int[MOST_EVENTS];
        private final int[] hours = new int[MOST_EVENTS];
        private int number = 0;

        int number() {
            return number;
        }

        boolean has(int event) {
            return event >= 0 && event < number;
        }

        boolean isFull() {
            return number >= MOST_EVENTS;
        }

        boolean mayComeIn(int week) {
            return isWithin(week, Math.max(weekOf(number - 1), 0), WEEKS - 1);
        }

        void add(int week, int kind, int one, int other, int hour) {
            if (isFull()) {
                return;
            }
            weeks[number] = week;
            kinds[number] = kind;
            ones[number] = one;
            others[number] = other;
            hours[number] = hour;
            number++;
        }

        void dropLast() {
            number = Math.max(number - 1, 0);
        }

        int weekOf(int event) {
            return has(event) ? weeks[event] : NONE;
        }

        int kindOf(int event) {
            return has(event) ? kinds[event] : NONE;
        }

        int oneOf(int event) {
            return has(event) ? ones[event] : NONE;
        }

        int otherOf(int event) {
            return has(event) ? others[event] : NONE;
        }

        int hourOf(int event) {
            return has(event) ? hours[event] : NOON;
        }
    }

    /** How all stands behind the events that were played last. */
    private static final class World {
        private final Lands lands;
        private final People people;
        private final Sky sky;
        private final Events events;

        private final int[] widths = new int[MOST_LANDS];
        private final int[] partners = new int[MOST_PEOPLE];
        private final int[] provinces = new int[MOST_PEOPLE];
        private final boolean[] alive = new boolean[MOST_PEOPLE];
        /** Of one who is wed: how much the wedding moved, and to which land. */
        private final int[] dowries = new int[MOST_PEOPLE];
        private final int[] takers = new int[MOST_PEOPLE];
        private int nobodys = 0;
        private int movedLast = 0;
        private int againstLaw = 0;
        private int firstAgainstLaw = NONE;

        World(Lands lands, People people, Sky sky, Events events) {
            this.lands = lands;
            this.people = people;
            this.sky = sky;
            this.events = events;
        }

        int widthOf(int land) {
            return lands.has(land) ? widths[land] : 0;
        }

        int partnerOf(int person) {
            return people.has(person) ? partners[person] : NONE;
        }

        int provinceOf(int person) {
            return people.has(person) ? provinces[person] : 0;
        }

        boolean isAlive(int person) {
            return people.has(person) && alive[person];
        }

        boolean isFree(int person) {
            return people.has(person) && alive[person] && partners[person] == NONE;
        }

        boolean mayMarry(int one, int other) {
            return people.areMatch(one, other) && alive[one] && alive[other]
                    && partners[one] == NONE && partners[other] == NONE;
        }

        int freeIn(int land) {
            int free = 0;
            for (int person = 0; person < people.number(); person++) {
                if (people.homeOf(person) == land && isFree(person)) {
                    free++;
                }
            }
            return free;
        }

        int nobodys() {
            return nobodys;
        }

        /** What the event that was played last moved, 0 if it was against the law. */
        int movedLast() {
            return movedLast;
        }

        int againstLaw() {
            return againstLaw;
        }

        int firstAgainstLaw() {
            return firstAgainstLaw;
        }

        /** Plays the first k events, but for one that is left out (NONE: for none). */
        void play(int k, int leftOut) {
            begin();
            for (int event = 0; event < k && event < events.number(); event++) {
                if (event != leftOut) {
                    playOne(event);
                }
            }
        }

        void begin() {
            for (int land = 0; land < MOST_LANDS; land++) {
                widths[land] = lands.toldWidth(land);
            }
            for (int person = 0; person < MOST_PEOPLE; person++) {
                partners[person] = NONE;
                provinces[person] = 0;
                alive[person] = true;
            }
            nobodys = 0;
            movedLast = 0;
            againstLaw = 0;
            firstAgainstLaw = NONE;
        }

        void playOne(int event) {
            movedLast = 0;
            boolean isLawful = false;
            switch (events.kindOf(event)) {
                case Events.WEDDING:
                    isLawful = marry(events.oneOf(event), events.otherOf(event), differenceAt(event));
                    break;
                case Events.PARTING:
                    isLawful = part(events.oneOf(event));
                    break;
                default:
                    isLawful = die(events.oneOf(event));
                    break;
            }
            if (!isLawful) {
                againstLaw++;
            }
            if (!isLawful && firstAgainstLaw == NONE) {
                firstAgainstLaw = event;
            }
        }

        /** By how much a land grows by a wedding with another, where its shadow is longer by a difference. */
        static int gain(int difference, int width, int otherWidth) {
            return difference >= 0 ? Math.min(difference, otherWidth) : -Math.min(-difference, width);
        }

        /** Whether the law lets it be; so with partings and deaths. */
        private boolean marry(int one, int other, int difference) {
            int land = people.homeOf(one);
            int otherLand = people.homeOf(other);
            if (!mayMarry(one, other) || !lands.has(land) || !lands.has(otherLand)) {
                return false;
            }
            int gain = gain(difference, widths[land], widths[otherLand]);
            widths[land] += gain;
            widths[otherLand] -= gain;
            movedLast = land < otherLand ? gain : -gain;
            int taker = gain > 0 ? land : otherLand;
            bind(one, other, Math.abs(gain), taker);
            bind(other, one, Math.abs(gain), taker);
            return true;
        }

        private boolean part(int person) {
            if (partnerOf(person) == NONE) {
                return false;
            }
            movedLast = dissolve(person);
            nobodys += movedLast;
            return true;
        }

        private boolean die(int person) {
            if (!isAlive(person)) {
                return false;
            }
            int widowed = partners[person];
            alive[person] = false;
            if (people.has(widowed)) {
                movedLast = dissolve(person);
                provinces[widowed] += movedLast;
            }
            return true;
        }

        /** By how much the shadow of the first at a wedding is longer. */
        private int differenceAt(int event) {
            if (sky.cloudsIn(events.weekOf(event)) == 1) {
                return 0;
            }
            int hour = events.hourOf(event);
            return people.shadowOf(events.oneOf(event), hour) - people.shadowOf(events.otherOf(event), hour);
        }

        private void bind(int person, int partner, int dowry, int taker) {
            if (people.has(person)) {
                partners[person] = partner;
                dowries[person] = dowry;
                takers[person] = taker;
            }
        }

        /** Frees two who are wed and takes what their wedding moved from its land: how much. */
        private int dissolve(int person) {
            if (!people.has(person) || !people.has(partners[person]) || !lands.has(takers[person])) {
                return 0;
            }
            int taker = takers[person];
            int gone = Math.min(dowries[person], widths[taker]);
            widths[taker] -= gone;
            partners[partners[person]] = NONE;
            partners[person] = NONE;
            return gone;
        }
    }

    /** The couples of two neighbouring lands who may marry at hour 6, behind the events played. */
    private static final class Couples {
        private final World world;
        private final People people;
        private final int[] ones = new int[MOST_COUPLES];
        private final int[] others = new int[MOST_COUPLES];
        private int number = 0;

        Couples(World world, People people) {
            this.world = world;
            this.people = people;
        }

        int number() {
            return number;
        }

        void clear() {
            number = 0;
        }

        /** Adds those of one in a land and one in another, in the order of their numbers. */
        void gather(int land, int otherLand) {
            for (int one = 0; one < people.number(); one++) {
                for (int other = 0; other < people.number(); other++) {
                    if (people.homeOf(one) == land && people.homeOf(other) == otherLand
                            && world.mayMarry(one, other) && number < MOST_COUPLES) {
                        ones[number] = one;
                        others[number] = other;
                        number++;
                    }
                }
            }
        }

        boolean has(int couple) {
            return couple >= 0 && couple < number;
        }

        int oneOf(int couple) {
            return has(couple) ? ones[couple] : NONE;
        }

        int otherOf(int couple) {
            return has(couple) ? others[couple] : NONE;
        }

        /** Both as bits, so that couples who share one can be told by them. */
        int bitsOf(int couple) {
            return has(couple) ? 1 << ones[couple] | 1 << others[couple] : 0;
        }

        /** By how much the shadow of the first is longer. */
        int differenceOf(int couple) {
            return people.shadowOf(oneOf(couple), FIRST_HOUR) - people.shadowOf(otherOf(couple), FIRST_HOUR);
        }
    }

    /**
     * How wide a land becomes by weddings of its own people.
     *
     * <p>A wedding by which the land loses never helps: it only makes a neighbour wider from
     * whom as much must be taken again. Without those the order doesn't matter, since each
     * neighbour gives the sum of the differences or all that it has. So sets of weddings are
     * searched, not rows.
     */
    private static final class Courtship {
        private final World world;
        private final Couples couples;
        private final int[] differences = new int[MOST_COUPLES];
        private final int[] bits = new int[MOST_COUPLES];
        /** By as many weddings as the index says; NONE where none were found. */
        private final int[] widest = new int[MOST_WEDDINGS + 1];
        private int ownWidth = 0;
        private int widthBelow = 0;
        private int widthAbove = 0;
        /** The couples from this one on are those with the neighbour above. */
        private int firstAbove = 0;
        private int mostWeddings = 0;

        Courtship(World world, People people) {
            this.world = world;
            couples = new Couples(world, people);
        }

        int fewestFor(int land, int width) {
            search(land, MOST_WEDDINGS);
            for (int weddings = 0; weddings <= MOST_WEDDINGS; weddings++) {
                if (widest[weddings] >= width) {
                    return weddings;
                }
            }
            return NONE;
        }

        int widestBy(int land, int most) {
            search(land, most);
            int best = NONE;
            for (int width : widest) {
                best = Math.max(best, width);
            }
            return best;
        }

        private void search(int land, int most) {
            ownWidth = world.widthOf(land);
            widthBelow = world.widthOf(land - 1);
            widthAbove = world.widthOf(land + 1);
            mostWeddings = Math.min(most, MOST_WEDDINGS);
            couples.clear();
            couples.gather(land, land - 1);
            firstAbove = couples.number();
            couples.gather(land, land + 1);
            for (int couple = 0; couple < couples.number() && couple < MOST_COUPLES; couple++) {
                differences[couple] = couples.differenceOf(couple);
                bits[couple] = couples.bitsOf(couple);
            }
            Arrays.fill(widest, NONE);
            court(this, 0, 0, 0, 0, 0);
        }

        /** Below and above are the sums of the differences to both neighbours. */
        private static void court(Courtship c, int from, int weddings, int taken, int below, int above) {
            c.note(weddings, below, above);
            if (weddings >= c.mostWeddings || c.hasAll(below, above)) {
                return;
            }
            int number = Math.min(c.couples.number(), MOST_COUPLES);
            for (int couple = Math.max(from, 0); couple < number; couple++) {
                int difference = c.differences[couple];
                if (difference > 0 && (taken & c.bits[couple]) == 0) {
                    boolean isAbove = couple >= c.firstAbove;
                    court(c, couple + 1, weddings + 1, taken | c.bits[couple],
                            isAbove ? below : below + difference, isAbove ? above + difference : above);
                }
            }
        }

        private boolean hasAll(int below, int above) {
            return below >= widthBelow && above >= widthAbove;
        }

        private void note(int weddings, int below, int above) {
            int width = ownWidth + Math.min(below, widthBelow) + Math.min(above, widthAbove);
            if (weddings >= 0 && weddings <= MOST_WEDDINGS) {
                widest[weddings] = Math.max(widest[weddings], width);
            }
        }
    }

    /** Two lords who marry in turn, each for a land that is wider than the other's. */
    private static final class Turns {
        private final World world;
        private final Couples couples;
        private int firstWedding = NONE;

        Turns(World world, People people) {
            this.world = world;
            couples = new Couples(world, people);
        }

        /** By how much the first land is wider in the end. */
        int playOut(int land, int otherLand) {
            couples.clear();
            couples.gather(land, otherLand);
            firstWedding = NONE;
            return takeTurn(this, 0, 0, world.widthOf(land), world.widthOf(otherLand));
        }

        /** Of the turns played out last: 12 times the one and the other one; NONE. */
        int firstWedding() {
            return firstWedding;
        }

        private static int takeTurn(Turns t, int depth, int taken, int width, int otherWidth) {
            int best = width - otherWidth;
            if (depth >= MOST_LORDS_PEOPLE) {
                return best;
            }
            boolean isFirstLords = depth % 2 == 0;
            boolean hasMarried = false;
            for (int couple = 0; couple < t.couples.number(); couple++) {
                int bits = t.couples.bitsOf(couple);
                if ((taken & bits) != 0) {
                    continue;
                }
                int gain = World.gain(t.couples.differenceOf(couple), width, otherWidth);
                int end = takeTurn(t, depth + 1, taken | bits, width + gain, otherWidth - gain);
                if (!hasMarried || (isFirstLords ? end > best : end < best)) {
                    best = end;
                    hasMarried = true;
                    t.noteFirst(depth, couple);
                }
            }
            return best;
        }

        private void noteFirst(int depth, int couple) {
            if (depth == 0) {
                firstWedding = MOST_PEOPLE * couples.oneOf(couple) + couples.otherOf(couple);
            }
        }
    }

    /** Widths that were measured. */
    private static final class Surveys {
        private final int[] measuredLands = new int[MOST_SURVEYS];
        private final int[] measuredBehind = new int[MOST_SURVEYS];
        private final int[] measuredWidths = new int[MOST_SURVEYS];
        private int number = 0;

        int number() {
            return number;
        }

        boolean isFull() {
            return number >= MOST_SURVEYS;
        }

        void add(int land, int k, int width) {
            if (isFull()) {
                return;
            }
            measuredLands[number] = land;
            measuredBehind[number] = k;
            measuredWidths[number] = width;
            number++;
        }

        void clear() {
            number = 0;
        }

        int unaskable(Lands lands, Events events) {
            int unasked = 0;
            for (int i = 0; i < number && i < MOST_SURVEYS; i++) {
                if (!lands.has(measuredLands[i]) || measuredBehind[i] > events.number()) {
                    unasked++;
                }
            }
            return unasked;
        }

        /** How many of those that can be asked come out otherwise than they were measured. */
        int otherwiseIn(World world, Lands lands, Events events) {
            int otherwise = 0;
            world.begin();
            for (int k = 0; k <= events.number(); k++) {
                for (int i = 0; i < number && i < MOST_SURVEYS; i++) {
                    if (measuredBehind[i] == k && lands.has(measuredLands[i])
                            && world.widthOf(measuredLands[i]) != measuredWidths[i]) {
                        otherwise++;
                    }
                }
                if (events.has(k)) {
                    world.playOne(k);
                }
            }
            return otherwise;
        }
    }

    /** A row of items of a form, or a lost one. */
    private static final class Sheet {
        private final int[] items = new int[MOST_ITEMS];
        private int form = 0;
        private int size = NONE;

        boolean isLost() {
            return size == NONE;
        }

        int size() {
            return size;
        }

        int form() {
            return form;
        }

        boolean hasItem(int i) {
            return i >= 0 && i < size && i < MOST_ITEMS;
        }

        boolean hasSpan(int i, int n) {
            return i >= 0 && n >= 0 && n <= size - i;
        }

        void renew(int newForm, int newSize) {
            form = newForm;
            size = Math.max(0, Math.min(newSize, MOST_ITEMS));
            Arrays.fill(items, 0);
        }

        void drop() {
            size = NONE;
        }

        int itemAt(int i) {
            return hasItem(i) ? items[i] : 0;
        }

        void put(int i, int v) {
            if (hasItem(i)) {
                items[i] = fitted(v);
            }
        }

        void take(int j, Sheet from, int i, int n) {
            if (hasSpan(j, n) && from.hasSpan(i, n)) {
                System.arraycopy(from.items, i, items, j, n);
            }
        }

        private int fitted(int v) {
            if (form == 0) {
                return (byte) v;
            }
            return form == 1 ? (short) v : v;
        }
    }
}
