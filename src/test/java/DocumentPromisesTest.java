import java.io.IOException;
import java.util.Arrays;

/** The document from its first promise to its last line, sentence by sentence. */
public final class DocumentPromisesTest {
    private static final Due DUE = new Due("DocumentPromisesTest");
    private static final int NONE = MarriedMap.NONE, BAD = MarriedMap.BAD, NOT = MarriedMap.NOT, FULL = MarriedMap.FULL;
    private static final int ANY_BAD = -10002, ANY_FULL = -10004, LEAST = Integer.MIN_VALUE;
    private static final int NULL = -11, INDEX = -12, CAST = -13, STORE = -14, SIZE = -15;
    private static final int FIRST_PROMISE = 2;

    private final Sentences doc = new Sentences(DUE, "## Promise 1:", "## (the end)");

    private DocumentPromisesTest() throws IOException { }

    public static void main(String[] args) throws IOException {
        DocumentPromisesTest test = new DocumentPromisesTest();
        test.newObject();
        test.texts();
        test.persons();
        test.clouds();
        test.weddings();
        test.partingsAndDeaths();
        test.weddingsRead();
        test.undoAndJudged();
        test.movedAndWidth();
        test.stateAndNobody();
        test.reachGrowsLeave();
        test.surveys();
        test.withoutAndBlame();
        test.lords();
        test.sheetAndLose();
        test.layAndGet();
        test.copy();
        test.write();
        test.count();
        test.digest();
        test.notPromised();
        test.doc.end();
    }

    /** Shadows at noon: 0 m 7 and 1 w 5 in land 0; 2 w 3 and 3 m 9 in land 1; 4 w 2 in land 2. */
    private static MarriedMap duchy() {
        return Due.duchy("50;40;30", "m052;w041;w130;m163;w220");
    }

    /** 0 and 2 wed, 3 and 4 wed, 0 and 2 part, 3 dies. */
    private static MarriedMap withEvents() {
        MarriedMap x = duchy();
        x.wed(1, 0, 2, 12);
        x.wed(2, 4, 3, 11);
        x.ends(3, 0, 2);
        x.ends(4, 1, 3);
        return x;
    }

    /** That calls with numbers of which one is not as told are refused. */
    private void bad(MarriedMap x, String call, int answer, int[]... told) {
        int number = Calls.NAMES.indexOf(call);
        for (int[] a : told) {
            doc.is(number + FIRST_PROMISE, Calls.tell(number, a), new Calls(x).answer(number, a), answer);
        }
    }

    private static int[] of(int... numbers) {
        return numbers;
    }

    private void newObject() {
        doc.said("Empty texts, no EVENTS; all SHEETS are LOST.");
        MarriedMap x = new MarriedMap();
        for (int what = 0; what <= 8; what++) {
            doc.is(1, "count(" + what + ")", x.count(what), 0);
        }
        for (int s = 0; s < 4; s++) {
            doc.is(1, "lose(" + s + ")", x.lose(s), NULL);
        }
        doc.is(1, "undo()", x.undo(), NOT);
    }

    private void texts() {
        doc.said("A byte (0 to 255) comes behind a text: how many.");
        MarriedMap x = new MarriedMap();
        doc.is(2, "type(0, 0)", x.type(0, 0), 1);
        doc.is(2, "type(0, 255)", x.type(0, 255), 2);
        doc.is(2, "type(1, 255)", x.type(1, 255), 1);
        MarriedMap behind = Due.duchy("1", "");
        behind.type(0, '2');
        doc.is(2, "width(0, 0) of 1, and 2 behind it", behind.width(0, 0), 12);
        doc.said("BAD; FULL.");
        bad(x, "type", BAD, of(2, 48), of(-1, 48), of(0, 256), of(0, -1), of(1, 256), of(1, -1));
        Due.type(x, 0, "0".repeat(18));
        Due.type(x, 1, "0".repeat(59));
        doc.is(2, "type(0, 48) behind 20", x.type(0, 48), FULL);
        doc.is(2, "type(1, 48) behind 60", x.type(1, 48), FULL);
        doc.is(2, "type(0, 256) behind 20", x.type(0, 256), BAD);
        doc.said("A text is empty: how many bytes it had.");
        doc.is(3, "wipe(0)", x.wipe(0), 20);
        doc.is(3, "wipe(0)", x.wipe(0), 0);
        doc.is(3, "wipe(1)", x.wipe(1), 60);
        doc.is(3, "count(3)", x.count(3), 0);
        doc.is(3, "fault(1)", x.fault(1), NONE);
        doc.said("BAD.");
        bad(x, "wipe", BAD, of(2), of(-1));
        doc.said("The FAULT of a text; NONE.");
        doc.is(4, "fault(0)", Due.duchy("50;4x", "").fault(0), 4);
        doc.is(4, "fault(1)", duchy().fault(1), NONE);
        doc.is(4, "fault(1)", Due.duchy("50", "m052;w141").fault(1), 6);
        doc.said("BAD.");
        bad(x, "fault", BAD, of(2), of(-1));
    }

    private void persons() {
        MarriedMap x = duchy();
        doc.said("Of one of the PEOPLE: 0 m, 1 w (what = 0), LAND (1), HEIGHT (2), HAT (3).");
        int[][] people = {{0, 0, 5, 2}, {1, 0, 4, 1}, {1, 1, 3, 0}, {0, 1, 6, 3}, {1, 2, 2, 0}};
        for (int person = 0; person < 5; person++) {
            for (int what = 0; what < 4; what++) {
                doc.is(5, "person(" + person + ", " + what + ")", x.person(person, what), people[person][what]);
            }
        }
        doc.said("BAD.");
        bad(x, "person", BAD, of(5, 0), of(-1, 0), of(0, 4), of(0, -1));
        doc.said("SHADOW, under no clouds.");
        for (int week = 0; week < 52; week++) {
            x.cloud(week, 1);
        }
        doc.is(6, "shadow(3, 12)", x.shadow(3, 12), 9);
        doc.is(6, "shadow(3, 6)", x.shadow(3, 6), 63);
        doc.is(6, "shadow(3, 18)", x.shadow(3, 18), 63);
        doc.is(6, "shadow(4, 10)", x.shadow(4, 10), 6);
        doc.said("BAD.");
        bad(x, "shadow", BAD, of(5, 12), of(-1, 12), of(0, 5), of(0, 19));
    }

    private void clouds() {
        doc.said("CLOUDS in a WEEK: what it was.");
        MarriedMap x = new MarriedMap();
        doc.is(7, "cloud(51, 1)", x.cloud(51, 1), 0);
        doc.is(7, "cloud(51, 0)", x.cloud(51, 0), 1);
        doc.is(7, "cloud(51, 0)", x.cloud(51, 0), 0);
        doc.is(7, "cloud(0, 0)", x.cloud(0, 0), 0);
        doc.said("BAD.");
        bad(x, "cloud", BAD, of(52, 0), of(-1, 0), of(0, 2), of(0, -1));
    }

    private void weddings() {
        doc.said("A WEDDING more: how many EVENTS.");
        MarriedMap x = duchy();
        doc.is(8, "wed(7, 0, 2, 12)", x.wed(7, 0, 2, 12), 1);
        doc.is(8, "wed(7, 11, 0, 18): nobody has to be there", x.wed(7, 11, 0, 18), 2);
        doc.is(15, "state(0, 2, 0)", x.state(0, 2, 0), 2);
        doc.said("BAD: also a WEEK less than the one before; FULL.");
        bad(x, "wed", BAD, of(6, 0, 2, 12), of(52, 0, 2, 12), of(-1, 0, 2, 12), of(7, 12, 2, 12), of(7, -1, 2, 12),
                of(7, 0, 12, 12), of(7, 0, -1, 12), of(7, 0, 2, 5), of(7, 0, 2, 19));
        for (int i = 3; i <= 24; i++) {
            doc.is(8, "wed(51, 0, 0, 6)", x.wed(51, 0, 0, 6), i);
        }
        doc.is(8, "wed(51, 0, 0, 6) behind 24", x.wed(51, 0, 0, 6), FULL);
        bad(x, "wed", BAD, of(50, 0, 2, 12), of(51, 0, 12, 12));
    }

    private void partingsAndDeaths() {
        doc.said("A PARTING (kind = 0), a DEATH (1) more: how many EVENTS.");
        MarriedMap x = duchy();
        x.wed(5, 0, 2, 12);
        doc.is(9, "ends(5, 0, 0)", x.ends(5, 0, 0), 2);
        doc.is(9, "ends(6, 1, 2)", x.ends(6, 1, 2), 3);
        doc.is(15, "state(0, 2, 0): a parting", x.state(0, 2, 0), NONE);
        doc.is(15, "state(0, 3, 2): who is alive", x.state(0, 3, 2), 1);
        doc.is(15, "state(2, 3, 2): a death", x.state(2, 3, 2), 0);
        doc.said("BAD: likewise; FULL.");
        bad(x, "ends", BAD, of(5, 0, 0), of(52, 0, 0), of(-1, 0, 0), of(6, 2, 0), of(6, -1, 0), of(6, 0, 12), of(6, 0, -1));
        for (int i = 4; i <= 24; i++) {
            doc.is(9, "ends(6, 0, 11)", x.ends(6, 0, 11), i);
        }
        doc.is(9, "ends(6, 1, 0) behind 24", x.ends(6, 1, 0), FULL);
        bad(x, "ends", BAD, of(5, 1, 0), of(6, 2, 0));
    }

    private static void lay(MarriedMap x, int s, int form, int... items) {
        x.sheet(s, form, items.length);
        for (int i = 0; i < items.length; i++) {
            x.lay(s, form, i, items[i]);
        }
    }

    private void weddingsRead() {
        doc.said("WEDDINGS in a WEEK by a SHEET: its items, three for each (a, b, HOUR), as many as are whole, as long as each"
                + " may be: how many.");
        MarriedMap x = duchy();
        lay(x, 2, 0, 2, 0, 13, 3, 4, 12, 1);
        doc.is(10, "read(2, 8): two are whole", x.read(2, 8), 2);
        doc.is(13, "moved(0)", x.moved(0), 8);
        doc.is(13, "moved(1)", x.moved(1), 7);
        doc.is(10, "ends(7, 0, 0): they are of week 8", x.ends(7, 0, 0), BAD);
        lay(x, 2, 2, 1, 3, 6, 1, 3, 5, 1, 3, 6);
        doc.is(10, "read(2, 8): the second may not be", x.read(2, 8), 1);
        lay(x, 2, 2, 1, 12, 6);
        doc.is(10, "read(2, 8): none may be", x.read(2, 8), 0);
        doc.is(33, "count(4)", x.count(4), 3);
        doc.said("BAD: likewise; NULL.");
        bad(x, "read", BAD, of(4, 8), of(-1, 8), of(2, 7), of(2, 52), of(0, 7));
        doc.is(10, "read(0, 8)", x.read(0, 8), NULL);
        doc.is(33, "count(8)", x.count(8), 1);
    }

    private void undoAndJudged() {
        doc.said("The last EVENT is undone: how many are left.");
        MarriedMap x = withEvents();
        x.wed(5, 1, 3, 12);
        doc.is(12, "judged(): 3 is dead", x.judged(), 4);
        doc.is(11, "undo()", x.undo(), 4);
        doc.is(12, "judged()", x.judged(), NONE);
        doc.is(11, "undo()", x.undo(), 3);
        doc.is(15, "state(3, 3, 2): he lives again", x.state(3, 3, 2), 1);
        doc.is(15, "state(3, 3, 0)", x.state(3, 3, 0), 4);
        doc.is(11, "ends(3, 1, 0): by the week of what is left", x.ends(3, 1, 0), 4);
        for (int left = 3; left >= 0; left--) {
            doc.is(11, "undo()", x.undo(), left);
        }
        doc.said("NOT: none.");
        doc.is(11, "undo() of none", x.undo(), NOT);
        doc.is(11, "undo() of none", x.undo(), NOT);
        doc.said("JUDGED; NONE.");
        doc.is(12, "judged()", x.judged(), NONE);
        x.wed(0, 0, 2, 12);
        x.wed(0, 0, 2, 12);
        x.ends(0, 0, 4);
        doc.is(12, "judged()", x.judged(), 1);
    }

    private void movedAndWidth() {
        MarriedMap x = withEvents();
        doc.said("What an EVENT MOVED, as any number.");
        int[] moved = {4, 14, 4, 14};
        for (int event = 0; event < 4; event++) {
            doc.is(13, "moved(" + event + ")", x.moved(event), moved[event]);
        }
        MarriedMap back = duchy();
        back.wed(0, 1, 3, 12);
        doc.is(13, "moved(0): to land 1", back.moved(0), -4);
        doc.said("BAD: -10002.");
        bad(x, "moved", ANY_BAD, of(4), of(-1), of(24), of(LEAST));
        doc.said("WIDTH of a LAND behind k EVENTS.");
        int[][] widths = {{50, 40, 30}, {54, 36, 30}, {54, 50, 16}, {50, 50, 16}, {50, 36, 16}};
        for (int k = 0; k <= 4; k++) {
            for (int land = 0; land < 3; land++) {
                doc.is(14, "width(" + land + ", " + k + ")", x.width(land, k), widths[k][land]);
            }
        }
        doc.said("BAD.");
        bad(x, "width", BAD, of(3, 0), of(-1, 0), of(0, 5), of(0, -1));
    }

    private void stateAndNobody() {
        MarriedMap x = withEvents();
        doc.said("Of one of the PEOPLE behind k EVENTS: to whom one is wed (what = 0; NONE), the PROVINCE (1), whether one is"
                + " alive (2).");
        int[] ofThree = {NONE, NONE, 4, 4, NONE};
        for (int k = 0; k <= 4; k++) {
            doc.is(15, "state(3, " + k + ", 0)", x.state(3, k, 0), ofThree[k]);
            doc.is(15, "state(0, " + k + ", 0)", x.state(0, k, 0), k == 1 || k == 2 ? 2 : NONE);
            doc.is(15, "state(1, " + k + ", 0)", x.state(1, k, 0), NONE);
            doc.is(15, "state(4, " + k + ", 1)", x.state(4, k, 1), k == 4 ? 14 : 0);
            doc.is(15, "state(0, " + k + ", 1)", x.state(0, k, 1), 0);
            doc.is(15, "state(3, " + k + ", 2)", x.state(3, k, 2), k == 4 ? 0 : 1);
            doc.is(15, "state(4, " + k + ", 2)", x.state(4, k, 2), 1);
        }
        doc.is(15, "state(4, 4, 0): she is free", x.state(4, 4, 0), NONE);
        doc.said("BAD.");
        bad(x, "state", BAD, of(5, 0, 0), of(-1, 0, 0), of(0, 5, 0), of(0, -1, 0), of(0, 0, 3), of(0, 0, -1));
        doc.said("What is NOBODY's behind k EVENTS.");
        for (int k = 0; k <= 4; k++) {
            doc.is(16, "nobody(" + k + ")", x.nobody(k), k < 3 ? 0 : 4);
        }
        doc.said("BAD.");
        bad(x, "nobody", BAD, of(5), of(-1));
    }

    /** Behind the events 0, 1, 2 and 4 are free, 3 is dead: 7 and 3 may marry, which brings land 0 28 hands at hour 6. */
    private void reachGrowsLeave() {
        MarriedMap x = withEvents();
        doc.said("REACH; NONE.");
        doc.is(17, "reach(0, 50)", x.reach(0, 50), 0);
        doc.is(17, "reach(0, 78)", x.reach(0, 78), 1);
        doc.is(17, "reach(0, 79)", x.reach(0, 79), NONE);
        doc.is(17, "reach(1, 37)", x.reach(1, 37), NONE);
        doc.said("BAD.");
        bad(x, "reach", BAD, of(3, 0), of(-1, 0), of(0, 1000), of(0, -1));
        doc.said("GROWS.");
        doc.is(18, "grows(0, 0)", x.grows(0, 0), 50);
        doc.is(18, "grows(0, 1)", x.grows(0, 1), 78);
        doc.is(18, "grows(0, 4)", x.grows(0, 4), 78);
        doc.is(18, "grows(2, 4)", x.grows(2, 4), 16);
        doc.said("BAD.");
        bad(x, "grows", BAD, of(3, 0), of(-1, 0), of(0, 5), of(0, -1));
        doc.said("LEAVE.");
        MarriedMap y = Due.duchy("50;40", "m010;w190;m020;w180;m030;w170");
        for (int couple = 0; couple < 3; couple++) {
            y.wed(couple, 2 * couple, 2 * couple + 1, 12);
        }
        doc.is(19, "leave(): 0 with 3 and 5, 2 with 5", y.leave(), 3);
        y.ends(9, 1, 5);
        doc.is(19, "leave(): 0 with 3", y.leave(), 1);
    }

    private void surveys() {
        MarriedMap x = withEvents();
        doc.said("A SURVEY more: how many.");
        doc.is(20, "survey(0, 1, 54)", x.survey(0, 1, 54), 1);
        doc.is(20, "survey(5, 24, 999)", x.survey(5, 24, 999), 2);
        doc.said("BAD (k 0 to 24); FULL.");
        bad(x, "survey", BAD, of(6, 0, 0), of(-1, 0, 0), of(0, 25, 0), of(0, -1, 0), of(0, 0, 1000), of(0, 0, -1));
        for (int i = 3; i <= 8; i++) {
            doc.is(20, "survey(0, 0, 50)", x.survey(0, 0, 50), i);
        }
        doc.is(20, "survey(0, 0, 50) behind 8", x.survey(0, 0, 50), FULL);
        bad(x, "survey", BAD, of(6, 0, 0));
        doc.said("SURVEYS are forgotten: how many.");
        doc.is(21, "forget()", x.forget(), 8);
        doc.is(21, "forget()", x.forget(), 0);
        doc.is(21, "count(7)", x.count(7), 0);
        doc.said("FORGED, as bits.");
        x.survey(2, 2, 18);
        doc.is(22, "forged(3): 12 hands at 11 o'clock, so 8 with his hat", x.forged(3), 1 << 4);
        doc.is(22, "forged(4): 3, not 2", x.forged(4), 1 << 2);
        doc.is(22, "forged(0): none", x.forged(0), 0);
        doc.is(5, "person(3, 2): as it is told", x.person(3, 2), 6);
        doc.said("BAD.");
        bad(x, "forged", BAD, of(5), of(-1));
        doc.said("UNLIKE.");
        doc.is(23, "unlike()", x.unlike(), 1);
        x.survey(2, 2, 16);
        doc.is(23, "unlike()", x.unlike(), 1);
        x.survey(2, 5, 16);
        doc.is(23, "unlike()", x.unlike(), 2);
    }

    private void withoutAndBlame() {
        MarriedMap x = withEvents();
        doc.said("WITHOUT an EVENT.");
        int[][] widths = {{50, 40, 16}, {50, 36, 30}, {54, 36, 16}, {50, 50, 16}};
        for (int event = 0; event < 4; event++) {
            for (int land = 0; land < 3; land++) {
                doc.is(24, "without(" + event + ", " + land + ")", x.without(event, land), widths[event][land]);
            }
        }
        doc.said("BAD.");
        bad(x, "without", BAD, of(4, 0), of(-1, 0), of(0, 3), of(0, -1));
        doc.said("BLAME; NONE.");
        doc.is(25, "blame(0): the parting", x.blame(0), 2);
        doc.is(25, "blame(1): the death", x.blame(1), 3);
        doc.is(25, "blame(2): the wedding", x.blame(2), 1);
        doc.is(25, "blame(2) of nothing", duchy().blame(2), NONE);
        doc.said("BAD.");
        bad(x, "blame", BAD, of(3), of(-1));
    }

    /** Shadows at hour 6: 49 and 35 in land 0, 21 and 63 in land 1; m and w of both. */
    private void lords() {
        MarriedMap x = duchy();
        doc.said("TURNS: what it is for the first (what = 0), the first wedding (1; NONE), as any number.");
        doc.is(26, "lords(0, 1, 0): 28 to it, 28 back", x.lords(0, 1, 0), 10);
        doc.is(26, "lords(0, 1, 1): either, so the least", x.lords(0, 1, 1), 2);
        doc.is(26, "lords(1, 0, 0)", x.lords(1, 0, 0), -10);
        doc.is(26, "lords(1, 0, 1)", x.lords(1, 0, 1), 24);
        doc.is(26, "lords(1, 2, 0): all 30", x.lords(1, 2, 0), 70);
        doc.is(26, "lords(1, 2, 1)", x.lords(1, 2, 1), 12 * 3 + 4);
        doc.is(26, "lords(2, 1, 0)", x.lords(2, 1, 0), -70);
        doc.is(26, "lords(1, 2, 1) behind a death", withEvents().lords(1, 2, 1), NONE);
        doc.said("BAD: -10002: also LANDS that are not next to one another; FULL: -10004.");
        bad(x, "lords", ANY_BAD, of(0, 2, 0), of(0, 0, 0), of(2, 0, 1), of(3, 2, 0), of(2, 3, 0), of(-1, 0, 0), of(0, -1, 0),
                of(0, 1, 2), of(0, 1, -1));
        MarriedMap five = Due.duchy("50;40;30", "m011;w011;m011;w011;m011");
        bad(five, "lords", ANY_FULL, of(0, 1, 0), of(1, 0, 1));
        bad(five, "lords", ANY_BAD, of(0, 2, 0), of(0, 1, 2));
        doc.is(26, "lords(1, 2, 0)", five.lords(1, 2, 0), 10);
    }

    private void sheetAndLose() {
        doc.said("A SHEET is a new row of a FORM with n items: n.");
        MarriedMap x = new MarriedMap();
        doc.is(27, "sheet(0, 0, 3)", x.sheet(0, 0, 3), 3);
        x.lay(0, 0, 2, 7);
        doc.is(27, "sheet(0, 0, 3)", x.sheet(0, 0, 3), 3);
        doc.is(27, "get(0, 0, 2) of a new row", x.get(0, 0, 2), 0);
        doc.is(27, "sheet(0, 2, 60)", x.sheet(0, 2, 60), 60);
        doc.is(27, "lay(0, 0, 2, 7): it is of another form", x.lay(0, 0, 2, 7), CAST);
        doc.is(27, "sheet(3, 1, 0)", x.sheet(3, 1, 0), 0);
        doc.said("BAD: SHEET, FORM, above 60; SIZE.");
        bad(x, "sheet", BAD, of(4, 0, 1), of(-1, 0, 1), of(0, 3, 1), of(0, -1, 1), of(0, 0, 61), of(4, 0, -1), of(0, 3, -1));
        bad(x, "sheet", SIZE, of(0, 0, -1), of(3, 2, LEAST));
        doc.said("It is LOST: how many items it had.");
        doc.is(28, "lose(0)", x.lose(0), 60);
        doc.is(28, "lose(3)", x.lose(3), 0);
        doc.said("BAD; NULL.");
        bad(x, "lose", BAD, of(4), of(-1));
        bad(x, "lose", NULL, of(0), of(1), of(2), of(3));
        doc.is(28, "count(8)", x.count(8), 1);
    }

    private void layAndGet() {
        MarriedMap x = new MarriedMap();
        for (int form = 0; form < 3; form++) {
            x.sheet(form, form, 2);
        }
        doc.said("Item i, treated as of a FORM, becomes v (the lowest bits that it has): 1.");
        int[] numbers = {127, 128, -128, -129, 255, 256, 32767, 32768, -32768, -32769, 65535, 65536, LEAST, Integer.MAX_VALUE};
        int[] bytes = {127, -128, -128, 127, -1, 0, -1, 0, 0, -1, -1, 0, 0, -1};
        int[] shorts = {127, 128, -128, -129, 255, 256, 32767, -32768, -32768, 32767, -1, 0, 0, -1};
        for (int i = 0; i < numbers.length; i++) {
            int[] due = {bytes[i], shorts[i], numbers[i]};
            for (int form = 0; form < 3; form++) {
                doc.is(29, "lay(" + form + ", " + form + ", 1, " + numbers[i] + ")", x.lay(form, form, 1, numbers[i]), 1);
                doc.is(30, "get(" + form + ", " + form + ", 1)", x.get(form, form, 1), due[form]);
                doc.is(30, "get(" + form + ", " + form + ", 0)", x.get(form, form, 0), 0);
            }
        }
        doc.said("BAD; NULL; CAST; INDEX.");
        bad(x, "lay", BAD, of(4, 0, 0, 0), of(-1, 0, 0, 0), of(0, 3, 0, 0), of(0, -1, 0, 0), of(3, 3, 0, 0));
        bad(x, "lay", NULL, of(3, 0, 0, 0), of(3, 1, 9, 0));
        bad(x, "lay", CAST, of(0, 1, 0, 0), of(0, 2, 9, 0), of(2, 0, -1, 0));
        bad(x, "lay", INDEX, of(0, 0, 2, 0), of(0, 0, -1, 0), of(2, 2, 60, 0));
        doc.said("Item i of it.");
        x.lay(1, 1, 0, -5);
        x.lay(1, 1, 1, 6);
        doc.is(30, "get(1, 1, 0)", x.get(1, 1, 0), -5);
        doc.is(30, "get(1, 1, 1)", x.get(1, 1, 1), 6);
        doc.said("BAD: the least int; so are NULL, CAST, INDEX (count() 8 tells).");
        x.sheet(0, 0, -1);
        bad(x, "get", LEAST, of(4, 0, 0), of(-1, 0, 0), of(0, 3, 0), of(0, -1, 0));
        doc.is(33, "count(8) behind BAD", x.count(8), 5);
        bad(x, "get", LEAST, of(3, 0, 0));
        doc.is(33, "count(8) behind NULL", x.count(8), 1);
        bad(x, "get", LEAST, of(0, 1, 0));
        doc.is(33, "count(8) behind CAST", x.count(8), 3);
        bad(x, "get", LEAST, of(0, 0, 2));
        doc.is(33, "count(8) behind INDEX", x.count(8), 2);
    }

    private void copy() {
        MarriedMap x = new MarriedMap();
        lay(x, 0, 1, 1, 2, 3, 4, 5);
        lay(x, 1, 1, 6, 7, 8);
        lay(x, 2, 2, 9, 9, 9);
        doc.said("n items of SHEET s, from i on, come to SHEET t (perhaps s, as they were), from j on: 1.");
        doc.is(31, "copy(0, 3, 1, 0, 2)", x.copy(0, 3, 1, 0, 2), 1);
        items(x, 1, 4, 5, 8);
        doc.is(31, "copy(0, 0, 0, 2, 3)", x.copy(0, 0, 0, 2, 3), 1);
        items(x, 0, 1, 2, 1, 2, 3);
        doc.is(31, "copy(0, 2, 0, 1, 3)", x.copy(0, 2, 0, 1, 3), 1);
        items(x, 0, 1, 1, 2, 3, 3);
        doc.is(31, "copy(0, 5, 1, 3, 0): none", x.copy(0, 5, 1, 3, 0), 1);
        items(x, 1, 4, 5, 8);
        doc.said("BAD: the SHEETS; NULL: s, t; STORE; INDEX: below 0, not so many.");
        bad(x, "copy", BAD, of(4, 0, 1, 0, 1), of(-1, 0, 1, 0, 1), of(0, 0, 4, 0, 1), of(0, 0, -1, 0, 1), of(3, -1, 4, -1, -1));
        bad(x, "copy", NULL, of(3, 0, 1, 0, 1), of(0, 0, 3, 0, 1), of(3, -1, 3, -1, -1));
        bad(x, "copy", STORE, of(0, 0, 2, 0, 1), of(2, -1, 0, -1, -1));
        bad(x, "copy", INDEX, of(0, -1, 1, 0, 1), of(0, 0, 1, -1, 1), of(0, 0, 1, 0, -1), of(0, 4, 1, 0, 2), of(0, 0, 1, 2, 2),
                of(0, 6, 1, 0, 0), of(0, 0, 1, 4, 0), of(0, 1, 0, 0, Integer.MAX_VALUE));
        items(x, 0, 1, 1, 2, 3, 3);
        items(x, 1, 4, 5, 8);
    }

    private void items(MarriedMap x, int s, int... due) {
        for (int i = 0; i < due.length; i++) {
            doc.is(31, "get(" + s + ", 1, " + i + ")", x.get(s, 1, i), due[i]);
        }
    }

    private void write() {
        MarriedMap x = withEvents();
        doc.said("WIDTHS of LANDS 0 on behind k EVENTS come to a SHEET from item 0 on, as many as there are items and LANDS:"
                + " how many.");
        lay(x, 0, 1, 9, 9, 9, 9);
        lay(x, 1, 1, 9, 9);
        doc.is(32, "write(1, 0)", x.write(1, 0), 3);
        items(x, 0, 54, 36, 30, 9);
        doc.is(32, "write(4, 1)", x.write(4, 1), 2);
        items(x, 1, 50, 36);
        x.wipe(0);
        doc.is(32, "write(0, 0) without lands", x.write(0, 0), 0);
        items(x, 0, 54, 36, 30, 9);
        doc.said("BAD; NULL.");
        bad(x, "write", BAD, of(5, 0), of(-1, 0), of(0, 4), of(0, -1), of(5, 3));
        bad(x, "write", NULL, of(0, 3), of(4, 2));
    }

    private void count() {
        doc.said("0 LANDS, 1 PEOPLE, 2, 3 bytes of texts, 4 EVENTS, 5 those that are against the LAW, 6 WEEKS with clouds, 7"
                + " SURVEYS, 8 the number of the latest FINDING (0 before any).");
        MarriedMap x = withEvents();
        x.ends(9, 0, 0);
        x.ends(9, 0, 0);
        x.wed(9, 0, 0, 6);
        for (int i = 0; i < 9; i++) {
            x.cloud(5 * i, 1);
        }
        x.survey(0, 0, 0);
        doc.is(33, "count(8) before any", x.count(8), 0);
        x.lose(0);
        x.sheet(0, 0, 1);
        x.lay(0, 0, 1, 1);
        int[] due = {3, 5, 8, 24, 7, 3, 9, 1, 2};
        for (int what = 0; what <= 8; what++) {
            doc.is(33, "count(" + what + ")", x.count(what), due[what]);
        }
        doc.said("BAD.");
        bad(x, "count", BAD, of(9), of(-1));
    }

    /** Each number that the digest tells of a duchy, as the document tells it and not as the class answers. */
    private void digest() {
        doc.said("h is 17; h becomes 31 h and each of: count() 0 to 7; of texts fault(); judged(); of EVENTS moved(),"
                + " without(it, 0) (as it is told); of LANDS width() behind all EVENTS, reach(it, 150), grows(it, 2), blame(),"
                + " lords() with the next one, 0, 1 (as it is told); of PEOPLE person() 0 to 3, shadow() at 6, state() behind"
                + " all EVENTS 0 to 2, forged(); nobody() behind all EVENTS, leave(), unlike(); as longs that wrap.");
        MarriedMap x = withEvents();
        x.survey(2, 2, 18);
        int[][] told = {{3, 5, 8, 24, 4, 0, 0, 1}, {NONE, NONE}, {NONE},
            {4, 50}, {14, 50}, {4, 54}, {14, 50},
            {50, NONE, 78, 2, 50 - 36 + 2 * 28, 2}, {36, NONE, 36, 3, 36 - 16, NONE}, {16, NONE, 16, 1, ANY_BAD, ANY_BAD},
            {0, 0, 5, 2, 49, NONE, 0, 1, 0}, {1, 0, 4, 1, 35, NONE, 0, 1, 0}, {1, 1, 3, 0, 21, NONE, 0, 1, 0},
            {0, 1, 6, 3, 63, NONE, 0, 0, 1 << 4}, {1, 2, 2, 0, 14, NONE, 14, 1, 1 << 2},
            {4, 0, 1}};
        long h = 17;
        for (int number : Arrays.stream(told).flatMapToInt(Arrays::stream).toArray()) {
            h = 31 * h + number;
        }
        doc.is(34, "digest()", x.digest(), h);
        doc.is(34, "digest() again", x.digest(), h);
    }

    private void notPromised() {
        doc.free("How the state is held inside the object is free, as are the speed of each call, the text of toString and"
                + " the behaviour of equals and hashCode.");
        doc.free("Use of one object from several threads at once is not promised to be safe.");
        doc.said("Nothing is promised beyond the answers and state changes described above, and nothing about an object after"
                + " its 512th call.");
        for (Situation in : Situation.values()) {
            MarriedMap x = in.made();
            askMuch(x);
            doc.so(34, "questions change nothing: " + in, Whole.of(x).equals(Whole.of(in.made())));
        }
    }

    /** Each call that tells no change. */
    private static void askMuch(MarriedMap x) {
        Calls calls = new Calls(x);
        String[] questions = {"fault", "person", "shadow", "judged", "moved", "width", "state", "nobody", "reach", "grows",
            "leave", "forged", "unlike", "without", "blame", "lords", "count"};
        for (String question : questions) {
            for (int number = 0; number < 3; number++) {
                calls.answer(Calls.NAMES.indexOf(question), of(number, number + 1, number, number, number));
            }
        }
        x.digest();
    }
}
