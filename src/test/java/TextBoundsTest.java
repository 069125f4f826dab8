/** Promises 1 to 7 at the edges that the document names. */
public final class TextBoundsTest {
    private static final Due DUE = new Due("TextBoundsTest");
    private static final Refused REFUSED = new Refused(DUE);
    private static final int NONE = MarriedMap.NONE, BAD = MarriedMap.BAD, NOT = MarriedMap.NOT, FULL = MarriedMap.FULL;
    private static final String SIX_LANDS = "12;34;56;78;90;09";
    private static final String TWELVE_PEOPLE = "m011;w029;m039;w048;m057;w066;m075;w084;m093;w010;m091;w099";

    public static void main(String[] args) {
        newObjectHasNothing();
        newObjectHasNoSheets();
        objectsAreApart();
        anyByteIsTyped();
        textsHaveRoomForSoMany();
        typingRefused();
        wiping();
        wipingRefused();
        faultsOfLandsByteByByte();
        faultsOfPeopleByteByByte();
        textsThatAreNotEnded();
        oneTooMany();
        theFirstFaultCounts();
        figuresOfLands();
        landsAsTheyAreTold();
        withAFaultThereAreNone();
        widthsFromLeastToMost();
        faultRefused();
        persons();
        personRefused();
        shadows();
        shadowRefused();
        clouds();
        cloudRefused();
        questionsLeaveAll();
        DUE.end();
    }

    /** Promise 1: empty texts, no events: what every question answers then. */
    private static void newObjectHasNothing() {
        MarriedMap x = new MarriedMap();
        for (int what = 0; what <= 8; what++) {
            DUE.is(1, "count(" + what + ")", x.count(what), 0);
        }
        DUE.is(1, "fault(0)", x.fault(0), NONE);
        DUE.is(1, "fault(1)", x.fault(1), NONE);
        DUE.is(1, "person(0, 0)", x.person(0, 0), BAD);
        DUE.is(1, "shadow(0, 12)", x.shadow(0, 12), BAD);
        DUE.is(1, "undo()", x.undo(), NOT);
        DUE.is(1, "judged()", x.judged(), NONE);
        DUE.is(1, "moved(0)", x.moved(0), -10002);
        DUE.is(1, "width(0, 0)", x.width(0, 0), BAD);
        DUE.is(1, "state(0, 0, 0)", x.state(0, 0, 0), BAD);
        DUE.is(1, "nobody(0)", x.nobody(0), 0);
        DUE.is(1, "nobody(1)", x.nobody(1), BAD);
        DUE.is(1, "reach(0, 0)", x.reach(0, 0), BAD);
        DUE.is(1, "grows(0, 0)", x.grows(0, 0), BAD);
        DUE.is(1, "leave()", x.leave(), 0);
        DUE.is(1, "forged(0)", x.forged(0), BAD);
        DUE.is(1, "unlike()", x.unlike(), 0);
        DUE.is(1, "without(0, 0)", x.without(0, 0), BAD);
        DUE.is(1, "blame(0)", x.blame(0), BAD);
        DUE.is(1, "lords(0, 1, 0)", x.lords(0, 1, 0), -10002);
        DUE.is(1, "forget()", x.forget(), 0);
        DUE.is(1, "wipe(0)", x.wipe(0), 0);
        DUE.is(1, "wipe(1)", x.wipe(1), 0);
        DUE.is(1, "wed in the least week", x.wed(0, 0, 1, 12), 1);
    }

    /** Promise 1: all sheets are lost. */
    private static void newObjectHasNoSheets() {
        for (int s = 0; s < 4; s++) {
            for (int form = 0; form < 3; form++) {
                REFUSED.finding(Situation.NOTHING, 1, "lay", s, form, 0, 0);
                REFUSED.finding(Situation.NOTHING, 1, "get", s, form, 0);
            }
            REFUSED.finding(Situation.NOTHING, 1, "lose", s);
            REFUSED.finding(Situation.NOTHING, 1, "read", s, 0);
            REFUSED.finding(Situation.NOTHING, 1, "write", 0, s);
            REFUSED.finding(Situation.NOTHING, 1, "copy", s, 0, 3 - s, 0, 0);
            REFUSED.finding(Situation.NOTHING, 1, "copy", s, 0, s, 0, 0);
        }
    }

    private static void objectsAreApart() {
        java.util.List<Long> nothing = Whole.of(new MarriedMap());
        MarriedMap y = new MarriedMap();
        Situation.FULL.made();
        DUE.is(1, "a new object beside a full one is empty", Whole.of(y).equals(nothing) ? 1 : 0, 1);
        DUE.is(1, "a new object behind a full one is empty", Whole.of(new MarriedMap()).equals(nothing) ? 1 : 0, 1);
    }

    /** Promise 2: "A byte (0 to 255)". */
    private static void anyByteIsTyped() {
        for (int text = 0; text < 2; text++) {
            for (int b = 0; b <= 255; b++) {
                MarriedMap x = new MarriedMap();
                DUE.is(2, "type(" + text + ", " + b + ")", x.type(text, b), 1);
                DUE.is(2, "count(" + (2 + text) + ")", x.count(2 + text), 1);
                DUE.is(2, "count(" + (3 - text) + ")", x.count(3 - text), 0);
            }
        }
    }

    /** "a text of up to 20 bytes", "a text of up to 60 bytes". */
    private static void textsHaveRoomForSoMany() {
        for (int text = 0; text < 2; text++) {
            int room = text == 0 ? 20 : 60;
            MarriedMap x = new MarriedMap();
            for (int time = 0; time < 2; time++) {
                for (int i = 1; i <= room; i++) {
                    DUE.is(2, "type(" + text + ", 59), the " + i + "th", x.type(text, 59), i);
                }
                DUE.is(2, "type(" + text + ", 59), one too many", x.type(text, 59), FULL);
                DUE.is(2, "type(" + text + ", 59), two too many", x.type(text, 59), FULL);
                DUE.is(2, "count(" + (2 + text) + ")", x.count(2 + text), room);
                DUE.is(2, "type(" + (1 - text) + ", 59): the other text has room", x.type(1 - text, 59), time + 1);
                DUE.is(3, "wipe(" + text + ") of a full one", x.wipe(text), room);
            }
        }
    }

    /** Promise 2: "BAD; FULL." in this order. */
    private static void typingRefused() {
        for (Situation in : Situation.values()) {
            REFUSED.outside(in, "type", 0, 0, 1, 0, '1');
            REFUSED.outside(in, "type", 1, 0, 255, 0, '1');
            REFUSED.outside(in, "type", 1, 0, 255, 1, ';');
        }
        for (int b : new int[] {0, ';', '0', 255}) {
            REFUSED.full(Situation.FULL_TEXTS, "type", 0, b);
            REFUSED.full(Situation.FULL_TEXTS, "type", 1, b);
        }
    }

    /** Promise 3: "A text is empty: how many bytes it had." */
    private static void wiping() {
        for (int text = 0; text < 2; text++) {
            MarriedMap x = new MarriedMap();
            DUE.is(3, "wipe(" + text + ") of nothing", x.wipe(text), 0);
            x.type(text, 0);
            DUE.is(3, "wipe(" + text + ") of one byte", x.wipe(text), 1);
            DUE.is(3, "wipe(" + text + ") of a wiped one", x.wipe(text), 0);
            DUE.is(3, "count(" + (2 + text) + ")", x.count(2 + text), 0);
            DUE.is(3, "fault(" + text + ") of a wiped one", x.fault(text), NONE);
        }
        MarriedMap x = Due.duchy(SIX_LANDS, TWELVE_PEOPLE);
        DUE.is(3, "wipe(0)", x.wipe(0), 17);
        DUE.is(3, "count(3): the other text stays", x.count(3), 59);
        Due.type(x, 0, "10");
        DUE.is(3, "count(1): the people are there again", x.count(1), 12);
        DUE.is(3, "wipe(1)", x.wipe(1), 59);
        DUE.is(3, "count(0): the lands stay", x.count(0), 1);
        DUE.is(3, "count(1)", x.count(1), 0);
    }

    private static void wipingRefused() {
        for (Situation in : Situation.values()) {
            REFUSED.outside(in, "wipe", 0, 0, 1, 0);
            REFUSED.outside(in, "wipe", 0, 0, 1, 1);
        }
    }

    /** "the place of the first byte with which it cannot go on": any byte in any place of six lands. */
    private static void faultsOfLandsByteByByte() {
        for (int place = 0; place < SIX_LANDS.length(); place++) {
            for (int b = 0; b <= 255; b++) {
                boolean goesOn = place % 3 == 2 ? b == ';' : b >= '0' && b <= '9';
                String text = SIX_LANDS.substring(0, place) + (char) b + SIX_LANDS.substring(place + 1);
                MarriedMap x = Due.duchy(text, "");
                DUE.is(4, "fault(0) with byte " + b + " in place " + place, x.fault(0), goesOn ? NONE : place);
                DUE.is(4, "count(0) with byte " + b + " in place " + place, x.count(0), goesOn ? 6 : 0);
            }
        }
    }

    /** Any byte in any place of the first two people and of the twelfth, with two lands. */
    private static void faultsOfPeopleByteByByte() {
        for (int place = 0; place < TWELVE_PEOPLE.length(); place++) {
            if (place >= 10 && place < 54) {
                continue;
            }
            for (int b = 0; b <= 255; b++) {
                String text = TWELVE_PEOPLE.substring(0, place) + (char) b + TWELVE_PEOPLE.substring(place + 1);
                MarriedMap x = Due.duchy("10;20", text);
                boolean goesOn = goesOnInPeople(place % 5, b);
                DUE.is(4, "fault(1) with byte " + b + " in place " + place, x.fault(1), goesOn ? NONE : place);
                DUE.is(4, "count(1) with byte " + b + " in place " + place, x.count(1), goesOn ? 12 : 0);
            }
        }
    }

    private static boolean goesOnInPeople(int place, int b) {
        String[] bytes = {"mw", "01", "123456789", "0123456789", ";"};
        return bytes[place].indexOf(b) >= 0;
    }

    /** "an empty one is well; of one that is not ended, its end". */
    private static void textsThatAreNotEnded() {
        for (int length = 0; length <= SIX_LANDS.length(); length++) {
            boolean isEnded = length == 0 || length % 3 == 2;
            MarriedMap x = Due.duchy(SIX_LANDS.substring(0, length), "");
            DUE.is(4, "fault(0) of " + length + " bytes", x.fault(0), isEnded ? NONE : length);
            DUE.is(4, "count(0) of " + length + " bytes", x.count(0), isEnded ? (length + 1) / 3 : 0);
        }
        for (int length = 0; length <= TWELVE_PEOPLE.length(); length++) {
            boolean isEnded = length == 0 || length % 5 == 4;
            MarriedMap x = Due.duchy("10", TWELVE_PEOPLE.substring(0, length));
            DUE.is(4, "fault(1) of " + length + " bytes", x.fault(1), isEnded ? NONE : length);
            DUE.is(4, "count(1) of " + length + " bytes", x.count(1), isEnded ? (length + 1) / 5 : 0);
        }
    }

    /** "6 at most", "12 at most", and "of the first byte of one too many". */
    private static void oneTooMany() {
        for (String more : new String[] {";", ";0", ";00", ";x", ";;", ";99"}) {
            MarriedMap x = Due.duchy(SIX_LANDS + more, "");
            DUE.is(4, "fault(0) of six lands and " + more, x.fault(0), 18);
            DUE.is(4, "count(0) of six lands and " + more, x.count(0), 0);
        }
        MarriedMap x = Due.duchy("10", TWELVE_PEOPLE + ";");
        DUE.is(4, "fault(1) of twelve people and ;", x.fault(1), 60);
        DUE.is(4, "count(1) of twelve people and ;", x.count(1), 0);
        DUE.is(4, "type(1, 109)", x.type(1, 'm'), FULL);
        DUE.is(4, "fault(1) behind it", x.fault(1), 60);
    }

    private static void theFirstFaultCounts() {
        String[] lands = {"x", "xx;", "1x;y", "12x34", "12;x4;5x", "12;34x", "12;34;x", "12;34;5", "12;;34", ";12", " 12"};
        int[] faultsOfLands = {0, 0, 1, 2, 3, 5, 6, 7, 3, 0, 0};
        for (int i = 0; i < lands.length; i++) {
            DUE.is(4, "fault(0) of " + lands[i], Due.duchy(lands[i], "").fault(0), faultsOfLands[i]);
        }
        String[] people = {"x911", "m9", "m9x", "m901", "m00", "m00x", "m01x", "m011x", "m011;x9", "m011;w9", "m011;w90x",
            "m011;w10x", "m011;w11", "m011;;", "mw011", "m011w022", ";m011"};
        int[] faultsOfPeople = {0, 1, 1, 1, 2, 2, 3, 4, 5, 6, 6, 7, 8, 5, 1, 4, 0};
        for (int i = 0; i < people.length; i++) {
            DUE.is(4, "fault(1) of " + people[i], Due.duchy("10;20", people[i]).fault(1), faultsOfPeople[i]);
        }
    }

    /** "of PEOPLE of the figure of a LAND that there is not": the last one that there is, and the next. */
    private static void figuresOfLands() {
        for (int number = 0; number <= 6; number++) {
            String lands = number == 0 ? "" : SIX_LANDS.substring(0, 3 * number - 1);
            for (int land = 0; land <= 9; land++) {
                MarriedMap x = Due.duchy(lands, "w" + land + "11");
                String told = "one of land " + land + ", with " + number + " lands";
                DUE.is(4, "fault(1) of " + told, x.fault(1), land < number ? NONE : 1);
                DUE.is(4, "count(1) of " + told, x.count(1), land < number ? 1 : 0);
                DUE.is(5, "person(0, 1) of " + told, x.person(0, 1), land < number ? land : BAD);
                DUE.is(4, "fault(0) of " + told, x.fault(0), NONE);
            }
        }
    }

    /** "by LANDS as they are told; with a FAULT of LANDS there are none". */
    private static void landsAsTheyAreTold() {
        MarriedMap x = Due.duchy("", "m011;w111");
        String typed = "10;20;";
        int[] faults = {1, 6, 1, 1, NONE, 1};
        DUE.is(4, "fault(1) without lands", x.fault(1), 1);
        for (int i = 0; i < typed.length(); i++) {
            x.type(0, typed.charAt(i));
            DUE.is(4, "fault(1) with lands " + typed.substring(0, i + 1), x.fault(1), faults[i]);
            DUE.is(4, "count(1) with lands " + typed.substring(0, i + 1), x.count(1), faults[i] == NONE ? 2 : 0);
        }
        MarriedMap empty = Due.duchy("x", "");
        DUE.is(4, "fault(1) of no people with a fault of lands", empty.fault(1), NONE);
        MarriedMap none = Due.duchy("", "m");
        DUE.is(4, "fault(1) of a letter without lands", none.fault(1), 1);
    }

    /** "With a FAULT there are none of these." */
    private static void withAFaultThereAreNone() {
        MarriedMap x = Due.duchy("50;40", "m052;w130");
        x.wed(0, 0, 1, 12);
        x.type(1, 'x');
        DUE.is(4, "fault(1)", x.fault(1), 9);
        DUE.is(4, "fault(0): of the other text none", x.fault(0), NONE);
        DUE.is(4, "person(0, 0)", x.person(0, 0), BAD);
        DUE.is(4, "shadow(0, 12)", x.shadow(0, 12), BAD);
        DUE.is(4, "state(0, 0, 0)", x.state(0, 0, 0), BAD);
        DUE.is(4, "forged(0)", x.forged(0), BAD);
        DUE.is(4, "judged(): nobody is there", x.judged(), 0);
        DUE.is(4, "width(0, 1)", x.width(0, 1), 50);
        DUE.is(4, "count(3): the bytes are", x.count(3), 10);
        x.type(0, 'x');
        DUE.is(4, "fault(0)", x.fault(0), 5);
        DUE.is(4, "width(0, 0)", x.width(0, 0), BAD);
        DUE.is(4, "reach(0, 0)", x.reach(0, 0), BAD);
        DUE.is(4, "grows(0, 0)", x.grows(0, 0), BAD);
        DUE.is(4, "without(0, 0)", x.without(0, 0), BAD);
        DUE.is(4, "blame(0)", x.blame(0), BAD);
        DUE.is(4, "lords(0, 1, 0)", x.lords(0, 1, 0), -10002);
        DUE.is(4, "count(2): the bytes are", x.count(2), 6);
    }

    /** "its WIDTH in hands (00 to 99)", of each of six lands. */
    private static void widthsFromLeastToMost() {
        for (String width : new String[] {"00", "01", "09", "10", "90", "99"}) {
            for (int land = 0; land < 6; land++) {
                String lands = "55;55;55;55;55;55";
                MarriedMap x = Due.duchy(lands.substring(0, 3 * land) + width + lands.substring(3 * land + 2), "");
                for (int each = 0; each < 6; each++) {
                    int due = each == land ? Integer.parseInt(width) : 55;
                    DUE.is(14, "width(" + each + ", 0), land " + land + " of " + width, x.width(each, 0), due);
                }
            }
        }
    }

    private static void faultRefused() {
        for (Situation in : Situation.values()) {
            REFUSED.outside(in, "fault", 0, 0, 1, 0);
            REFUSED.outside(in, "fault", 0, 0, 1, 1);
        }
    }

    /** Promise 5: a letter (m, w), a HEIGHT (1 to 9), a HAT (0 to 9), of the first and of the twelfth. */
    private static void persons() {
        MarriedMap x = Due.duchy(SIX_LANDS, "m010;" + "w455;".repeat(10) + "w599");
        int[][] due = {{0, 0, 1, 0}, {1, 5, 9, 9}};
        for (int what = 0; what < 4; what++) {
            DUE.is(5, "person(0, " + what + ")", x.person(0, what), due[0][what]);
            DUE.is(5, "person(11, " + what + ")", x.person(11, what), due[1][what]);
        }
        DUE.is(5, "person(12, 0)", x.person(12, 0), BAD);
        MarriedMap one = Due.duchy("10", "m011");
        DUE.is(5, "person(0, 0)", one.person(0, 0), 0);
        DUE.is(5, "person(1, 0)", one.person(1, 0), BAD);
    }

    private static void personRefused() {
        REFUSED.bad(Situation.NOTHING, "person", 0, 0);
        REFUSED.bad(Situation.FULL_TEXTS, "person", 0, 0);
        REFUSED.outside(Situation.SOME, "person", 0, 0, 5, 5, 0);
        REFUSED.outside(Situation.FULL, "person", 0, 0, 11, 11, 0);
        REFUSED.outsideEver("person", 1, 0, 3, 0, 3);
    }

    /** "SHADOW of one at an HOUR (6 to 18)", from the least that there is to the greatest. */
    private static void shadows() {
        MarriedMap x = Due.duchy("10", "m010;w099;m019;w090");
        int[] together = {1, 18, 10, 9};
        int[] times = {7, 6, 5, 4, 3, 2, 1, 2, 3, 4, 5, 6, 7};
        for (int person = 0; person < 4; person++) {
            for (int hour = 6; hour <= 18; hour++) {
                DUE.is(6, "shadow(" + person + ", " + hour + ")", x.shadow(person, hour), together[person] * times[hour - 6]);
            }
        }
        for (int week = 0; week < 52; week++) {
            x.cloud(week, 1);
        }
        DUE.is(6, "shadow(1, 6), \"under no clouds\"", x.shadow(1, 6), 126);
    }

    private static void shadowRefused() {
        REFUSED.bad(Situation.NOTHING, "shadow", 0, 12);
        REFUSED.bad(Situation.FULL_TEXTS, "shadow", 0, 12);
        REFUSED.outside(Situation.SOME, "shadow", 0, 0, 5, 5, 12);
        REFUSED.outside(Situation.FULL, "shadow", 0, 0, 11, 11, 12);
        REFUSED.outsideEver("shadow", 1, 6, 18, 0, 6);
        REFUSED.outsideEver("shadow", 1, 6, 18, 0, 18);
    }

    /** "CLOUDS (0, 1 for each WEEK 0 to 51; 0 at first)", of one week and of all of them. */
    private static void clouds() {
        MarriedMap x = new MarriedMap();
        for (int week = 0; week < 52; week++) {
            DUE.is(7, "cloud(" + week + ", 1): 0 at first", x.cloud(week, 1), 0);
            DUE.is(33, "count(6)", x.count(6), week + 1);
        }
        for (int week = 51; week >= 0; week--) {
            DUE.is(7, "cloud(" + week + ", 1): it was so", x.cloud(week, 1), 1);
            DUE.is(33, "count(6): no more", x.count(6), week + 1);
            DUE.is(7, "cloud(" + week + ", 0)", x.cloud(week, 0), 1);
            DUE.is(7, "cloud(" + week + ", 0): it was so", x.cloud(week, 0), 0);
        }
        DUE.is(33, "count(6): none", x.count(6), 0);
        for (int clouded : new int[] {0, 1, 50, 51}) {
            MarriedMap y = new MarriedMap();
            y.cloud(clouded, 1);
            for (int week = 0; week < 52; week++) {
                DUE.is(7, "cloud(" + week + ", 0)", y.cloud(week, 0), week == clouded ? 1 : 0);
            }
        }
    }

    private static void cloudRefused() {
        for (int v = 0; v < 2; v++) {
            REFUSED.outsideEver("cloud", 0, 0, 51, 0, v);
            REFUSED.outsideEver("cloud", 0, 0, 51, 51, v);
            REFUSED.outsideEver("cloud", 1, 0, 1, 9, v);
            REFUSED.outsideEver("cloud", 1, 0, 1, 10, v);
        }
    }

    private static void questionsLeaveAll() {
        for (Situation in : new Situation[] {Situation.SOME, Situation.FULL}) {
            REFUSED.asks(in, "fault", 0);
            REFUSED.asks(in, "fault", 1);
            for (int what = 0; what < 4; what++) {
                REFUSED.asks(in, "person", 5, what);
            }
            REFUSED.asks(in, "shadow", 5, 6);
            REFUSED.asks(in, "shadow", 5, 18);
        }
        for (int text = 0; text < 2; text++) {
            REFUSED.asks(Situation.NOTHING, "wipe", text);
            REFUSED.asks(Situation.FULL_TEXTS, "fault", text);
        }
    }
}
