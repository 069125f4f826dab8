import java.io.IOException;
import java.lang.reflect.Constructor;
import java.lang.reflect.Field;
import java.lang.reflect.Method;
import java.lang.reflect.Modifier;
import java.nio.file.Files;
import java.nio.file.Path;
import java.util.Arrays;
import java.util.List;

/** The document from its first line to its first promise, sentence by sentence. */
public final class DocumentTermsTest {
    private static final Due DUE = new Due("DocumentTermsTest");
    private static final int NONE = MarriedMap.NONE, BAD = MarriedMap.BAD, NOT = MarriedMap.NOT, FULL = MarriedMap.FULL;
    private static final int LEAST = Integer.MIN_VALUE;
    private static final int NO_PROMISE = 0;

    private final Sentences doc = new Sentences(DUE, "## What it is", "## Promise 1:");

    private DocumentTermsTest() throws IOException { }

    public static void main(String[] args) throws Exception {
        DocumentTermsTest test = new DocumentTermsTest();
        test.whatItIs();
        test.lands();
        test.usedFor512Calls();
        test.face();
        test.people();
        test.faults();
        test.shadowsAndClouds();
        test.eventsAndLaw();
        test.whatEventsDo();
        test.sheetsAndFindings();
        test.behindEvents();
        test.reachAndGrows();
        test.leave();
        test.surveys();
        test.withoutAndBlame();
        test.turns();
        test.refusals();
        test.headings();
        test.doc.end();
    }

    private void whatItIs() {
        doc.said("Married to the map: a duchy of lands in a row, in which each marriage of neighbours moves the border by"
                + " the couple's shadows; people with heights and hats, lands with widths as texts; weddings, partings and"
                + " deaths week by week, by an hour, under clouds or not, judged by law; what each moved, what a widow"
                + " keeps, what is nobody's; whom to marry so that the duke's land is as wide as told, with fewest"
                + " weddings; who would leave whom; heights that are forged, by surveys; which event moved what, without"
                + " which a land would have what it wants; two lords who marry in turn; events undone.");
        MarriedMap x = Due.duchy("50;40;30", "m052;w130;m163;w220");
        x.cloud(3, 1);
        doc.is(8, "wed(1, 0, 1, 12)", x.wed(1, 0, 1, 12), 1);
        doc.is(8, "wed(2, 2, 3, 13)", x.wed(2, 2, 3, 13), 2);
        doc.is(9, "ends(3, 0, 0)", x.ends(3, 0, 0), 3);
        doc.is(8, "wed(3, 1, 0, 6)", x.wed(3, 1, 0, 6), 4);
        doc.is(9, "ends(4, 1, 2)", x.ends(4, 1, 2), 5);
        doc.is(12, "judged()", x.judged(), NONE);
        int[] moved = {4, 14, 4, 0, 14};
        for (int event = 0; event < 5; event++) {
            doc.is(13, "moved(" + event + ")", x.moved(event), moved[event]);
        }
        int[] widths = {50, 36, 16};
        for (int land = 0; land < 3; land++) {
            doc.is(14, "width(" + land + ", 5)", x.width(land, 5), widths[land]);
        }
        doc.is(15, "state(3, 5, 1): what the widow keeps", x.state(3, 5, 1), 14);
        doc.is(16, "nobody(5)", x.nobody(5), 4);
        doc.is(11, "undo()", x.undo(), 4);
        doc.is(15, "state(2, 4, 2): who was dead is alive", x.state(2, 4, 2), 1);
        doc.is(17, "reach(0, 51): all are wed", x.reach(0, 51), NONE);
        doc.is(19, "leave()", x.leave(), 0);
        x.survey(0, 1, 54);
        doc.is(22, "forged(0)", x.forged(0), 1 << 4);
        doc.is(25, "blame(0): the parting", x.blame(0), 2);
        doc.is(24, "without(2, 0)", x.without(2, 0), 54);
        doc.is(26, "lords(0, 1, 0)", x.lords(0, 1, 0), 0);
    }

    private void lands() {
        doc.said("LANDS (text 0) are a text of up to 20 bytes: two figures for each LAND (0 on, in a row; 6 at most) with ;"
                + " between them: its WIDTH in hands (00 to 99).");
        MarriedMap x = Due.duchy("00;99;01;10;42;07", "");
        int[] widths = {0, 99, 1, 10, 42, 7};
        for (int land = 0; land < 6; land++) {
            doc.is(14, "width(" + land + ", 0)", x.width(land, 0), widths[land]);
        }
        doc.is(33, "count(0)", x.count(0), 6);
        Due.type(x, 0, ";55");
        doc.is(2, "count(2): 20 bytes are there", x.count(2), 20);
        doc.is(2, "type(0, 53): one byte too many", x.type(0, '5'), FULL);
        doc.is(4, "fault(0): a seventh is one too many", x.fault(0), 18);
        doc.is(4, "fault(0) of one figure", Due.duchy("5", "").fault(0), 1);
        doc.is(4, "fault(0) of three figures", Due.duchy("555", "").fault(0), 2);
    }

    /** The 512th call answers as the first does (ModelTest draws such runs of other calls); behind it none may throw. */
    private void usedFor512Calls() {
        doc.said("An object is used for at most 512 calls after it has been made; what later calls answer is free.");
        MarriedMap x = new MarriedMap();
        for (int call = 0; call < 511; call++) {
            doc.is(7, "cloud(7, ..), call " + (call + 1), x.cloud(7, 1 - call % 2), call % 2);
        }
        doc.is(33, "count(6), call 512", x.count(6), 1);
        Calls calls = new Calls(x);
        for (int call = 0; call < Calls.NAMES.size(); call++) {
            calls.answer(call, new int[] {0, 0, 0, 0, 0});
            calls.answer(call, new int[] {LEAST, LEAST, LEAST, LEAST, LEAST});
        }
        x.digest();
    }

    private void face() throws ReflectiveOperationException {
        doc.said("public final class MarriedMap {");
        int modifiers = MarriedMap.class.getModifiers();
        doc.so(NO_PROMISE, "the class is public and final", Modifier.isPublic(modifiers) && Modifier.isFinal(modifiers));
        doc.so(NO_PROMISE, "it is above no other", MarriedMap.class.getSuperclass() == Object.class
                && MarriedMap.class.getInterfaces().length == 0 && MarriedMap.class.getPackageName().isEmpty());
        doc.said("public static final int NONE = -1, BAD = -2, NOT = -3, FULL = -4;");
        String[] constants = {"NONE", "BAD", "NOT", "FULL"};
        for (int i = 0; i < constants.length; i++) {
            Field constant = MarriedMap.class.getField(constants[i]);
            doc.is(NO_PROMISE, constants[i], constant.getInt(null), -1 - i);
            doc.so(NO_PROMISE, constants[i] + " is public static final int", constant.getType() == int.class
                    && constant.getModifiers() == (Modifier.PUBLIC | Modifier.STATIC | Modifier.FINAL));
        }
        doc.is(NO_PROMISE, "public constants", MarriedMap.class.getFields().length, constants.length);
        doc.said("public MarriedMap();");
        Constructor<?>[] constructors = MarriedMap.class.getDeclaredConstructors();
        doc.is(1, "constructors", constructors.length, 1);
        doc.is(1, "its parameters", constructors[0].getParameterCount(), 0);
        doc.is(1, "it is public", constructors[0].getModifiers(), Modifier.PUBLIC);
        String[] methods = {"int type(int text, int b)", "int wipe(int text)", "int fault(int text)",
            "int person(int person, int what)", "int shadow(int person, int hour)", "int cloud(int week, int v)",
            "int wed(int week, int a, int b, int hour)", "int ends(int week, int kind, int person)",
            "int read(int s, int week)", "int undo()", "int judged()", "int moved(int event)", "int width(int land, int k)",
            "int state(int person, int k, int what)", "int nobody(int k)", "int reach(int land, int width)",
            "int grows(int land, int k)", "int leave()", "int survey(int land, int k, int width)", "int forget()",
            "int forged(int person)", "int unlike()", "int without(int event, int land)", "int blame(int land)",
            "int lords(int a, int b, int what)", "int sheet(int s, int form, int n)", "int lose(int s)",
            "int lay(int s, int form, int i, int v)", "int get(int s, int form, int i)",
            "int copy(int s, int i, int t, int j, int n)", "int write(int k, int s)", "int count(int what)", "long digest()"};
        for (String method : methods) {
            method(method);
        }
        doc.said("}");
        long open = Arrays.stream(MarriedMap.class.getDeclaredMethods())
                .filter(m -> !Modifier.isPrivate(m.getModifiers())).count();
        doc.is(NO_PROMISE, "methods that are not private", open, methods.length);
    }

    private void method(String told) throws ReflectiveOperationException {
        doc.said("public " + told + ";");
        String name = told.substring(told.indexOf(' ') + 1, told.indexOf('('));
        String parameters = told.substring(told.indexOf('(') + 1, told.indexOf(')'));
        Class<?>[] types = new Class<?>[parameters.isEmpty() ? 0 : parameters.split(",").length];
        Arrays.fill(types, int.class);
        Method method = MarriedMap.class.getMethod(name, types);
        doc.so(NO_PROMISE, told + ": its answer", method.getReturnType() == (told.startsWith("long") ? long.class : int.class));
        doc.is(NO_PROMISE, told + ": public, of an object", method.getModifiers(), Modifier.PUBLIC);
    }

    private void people() {
        doc.said("PEOPLE (text 1) are a text of up to 60 bytes: for each (0 on; 12 at most), with ; between them, a letter"
                + " (m, w), the figure of a LAND, the figure of a HEIGHT (1 to 9), the figure of a HAT (0 to 9).");
        MarriedMap x = Due.duchy("10;20;30", "m010;w199" + ";m255".repeat(10));
        int[][] people = {{0, 0, 1, 0}, {1, 1, 9, 9}, {0, 2, 5, 5}};
        for (int what = 0; what < 4; what++) {
            doc.is(5, "person(0, " + what + ")", x.person(0, what), people[0][what]);
            doc.is(5, "person(1, " + what + ")", x.person(1, what), people[1][what]);
            doc.is(5, "person(11, " + what + ")", x.person(11, what), people[2][what]);
        }
        doc.is(33, "count(1)", x.count(1), 12);
        doc.is(2, "type(1, 59): the sixtieth", x.type(1, ';'), 60);
        doc.is(2, "type(1, 109): one too many", x.type(1, 'm'), FULL);
        doc.is(4, "fault(1) of a height of 0", Due.duchy("10", "m000").fault(1), 2);
        doc.is(4, "fault(1) of another letter", Due.duchy("10", "f011").fault(1), 0);
        doc.is(4, "fault(1) without ; between", Due.duchy("10", "m011w011").fault(1), 4);
    }

    private void fault(String lands, String people, int ofLands, int ofPeople) {
        MarriedMap x = Due.duchy(lands, people);
        doc.is(4, "fault(0) of " + lands, x.fault(0), ofLands);
        doc.is(4, "fault(1) of " + people + " in " + lands, x.fault(1), ofPeople);
    }

    private void faults() {
        doc.said("The FAULT of a text is the place of the first byte with which it cannot go on (an empty one is well; of"
                + " one that is not ended, its end), of the first byte of one too many, and of PEOPLE of the figure of a"
                + " LAND that there is not (by LANDS as they are told; with a FAULT of LANDS there are none).");
        fault("", "", NONE, NONE);
        fault("7", "m", 1, 1);
        fault("7a", "ma", 1, 1);
        fault("77;8", "m", 4, 1);
        fault("77;", "", 3, NONE);
        fault("77", "m011;w", NONE, 6);
        fault("77", "m011;", NONE, 5);
        fault("77", "m011 ", NONE, 4);
        fault("77;88", "m011;w211", NONE, 6);
        fault("77;88;99", "m011;w211", NONE, NONE);
        fault("77;88;", "m011;w211", 6, 1);
        fault("11;22;33;44;55;66;", "", 18, NONE);
        fault("11;22;33;44;55;66;7", "", 18, NONE);
        fault("77", "w011;".repeat(12), NONE, 60);
        doc.said("With a FAULT there are none of these.");
        MarriedMap x = Due.duchy("77;88", "m011");
        x.type(1, ';');
        doc.is(33, "count(1) with a FAULT of PEOPLE", x.count(1), 0);
        doc.is(5, "person(0, 0)", x.person(0, 0), BAD);
        doc.is(33, "count(0): the LANDS are", x.count(0), 2);
        x.type(0, ';');
        doc.is(33, "count(0) with a FAULT of LANDS", x.count(0), 0);
        doc.is(14, "width(0, 0)", x.width(0, 0), BAD);
    }

    private void shadowsAndClouds() {
        doc.said("SHADOW of one at an HOUR (6 to 18): HEIGHT and HAT together, times one more than as many hours as it is"
                + " from 12.");
        MarriedMap x = Due.duchy("50;90", "m047;w120");
        int[] shadows = {77, 66, 55, 44, 33, 22, 11, 22, 33, 44, 55, 66, 77};
        for (int hour = 6; hour <= 18; hour++) {
            doc.is(6, "shadow(0, " + hour + ")", x.shadow(0, hour), shadows[hour - 6]);
        }
        doc.said("CLOUDS (0, 1 for each WEEK 0 to 51; 0 at first): in such a WEEK nobody has a SHADOW.");
        for (int week = 0; week < 52; week++) {
            doc.is(7, "cloud(" + week + ", ..)", x.cloud(week, week % 2), 0);
        }
        x.wed(20, 0, 1, 6);
        doc.is(13, "moved(0) in week 20, without clouds", x.moved(0), 63);
        x.undo();
        x.wed(21, 0, 1, 6);
        doc.is(13, "moved(0) in week 21, under clouds", x.moved(0), 0);
        doc.is(15, "state(0, 1, 0): they are wed", x.state(0, 1, 0), 1);
    }

    private void eventsAndLaw() {
        doc.said("EVENTS, 24 at most (0 on), in WEEKS that never fall: a WEDDING of two (0 to 11) at an HOUR; a PARTING of"
                + " one; a DEATH of one.");
        MarriedMap x = new MarriedMap();
        for (int i = 0; i < 8; i++) {
            doc.is(8, "wed(" + i + ", 0, 11, 6)", x.wed(i, 0, 11, 6), 3 * i + 1);
            doc.is(9, "ends(" + i + ", 0, 11)", x.ends(i, 0, 11), 3 * i + 2);
            doc.is(9, "ends(" + i + ", 1, 0)", x.ends(i, 1, 0), 3 * i + 3);
            doc.is(8, "wed(" + (i - 1) + ", 0, 11, 6): a week that falls", x.wed(i - 1, 0, 11, 6), BAD);
        }
        doc.is(8, "wed(8, 0, 11, 6): one too many", x.wed(8, 0, 11, 6), FULL);
        doc.said("LAW: a WEDDING is of an m and a w that are there, alive, not wed, of LANDS next to one another; a PARTING"
                + " of one who is there and wed; a DEATH of one who is there and alive.");
        law();
        doc.said("What is against it does nothing.");
        MarriedMap y = Due.duchy("50;40;30", "m052;m061;w220;w130");
        y.wed(0, 0, 3, 12);
        List<Integer> before = stateOf(y, 1);
        y.wed(0, 0, 2, 6);
        y.wed(0, 0, 1, 6);
        y.wed(0, 1, 3, 6);
        y.ends(0, 0, 1);
        y.ends(0, 1, 4);
        for (int k = 2; k <= 6; k++) {
            doc.so(14, "all stands behind " + k + " events as behind one", stateOf(y, k).equals(before));
            doc.is(13, "moved(" + (k - 1) + ")", y.moved(k - 1), 0);
        }
        doc.said("JUDGED: the first EVENT that is; NONE.");
        doc.is(12, "judged()", y.judged(), 1);
        for (int i = 0; i < 5; i++) {
            y.undo();
        }
        doc.is(12, "judged(): none is", y.judged(), NONE);
        doc.is(12, "judged(): there are none", new MarriedMap().judged(), NONE);
    }

    /** In lands 0, 0, 1, 1, 2: a man, a woman, a man, a woman, a woman. */
    private void law() {
        String people = "m052;w041;m163;w130;w220";
        int[][] lawful = {{0, 3}, {3, 0}, {1, 2}, {2, 1}, {2, 4}, {4, 2}};
        for (int a = 0; a < 7; a++) {
            for (int b = 0; b < 7; b++) {
                int[] couple = {a, b};
                boolean isLawful = Arrays.stream(lawful).anyMatch(c -> Arrays.equals(c, couple));
                MarriedMap x = Due.duchy("50;40;30", people);
                x.wed(0, a, b, 12);
                doc.is(12, "judged() of a wedding of " + a + " and " + b, x.judged(), isLawful ? NONE : 0);
            }
        }
        for (int person = 0; person < 7; person++) {
            MarriedMap x = Due.duchy("50;40;30", people);
            x.wed(0, 0, 3, 12);
            x.ends(0, 1, 4);
            x.ends(0, 0, person);
            doc.is(12, "judged() of a parting of " + person, x.judged(), person == 0 || person == 3 ? NONE : 2);
            x.undo();
            x.ends(0, 1, person);
            doc.is(12, "judged() of a death of " + person, x.judged(), person < 4 ? NONE : 2);
            x.undo();
            x.wed(0, 2, person, 12);
            doc.is(12, "judged() of a wedding of 2 and " + person, x.judged(), person == 1 ? NONE : 2);
        }
    }

    private static List<Integer> stateOf(MarriedMap x, int k) {
        Integer[] row = new Integer[16];
        for (int person = 0; person < 4; person++) {
            for (int what = 0; what < 3; what++) {
                row[3 * person + what] = x.state(person, k, what);
            }
        }
        for (int land = 0; land < 3; land++) {
            row[12 + land] = x.width(land, k);
        }
        row[15] = x.nobody(k);
        return List.of(row);
    }

    private void widths(MarriedMap x, int k, int... widths) {
        for (int land = 0; land < widths.length; land++) {
            doc.is(14, "width(" + land + ", " + k + ")", x.width(land, k), widths[land]);
        }
    }

    /** Shadows at noon: 9 and 2 in land 0, 3 and 6 in land 1; land 1 has five hands. */
    private void whatEventsDo() {
        doc.said("A WEDDING: the LAND of the one with the longer SHADOW takes the difference of both from the other LAND, or"
                + " all that this has, if it is less: that is what it MOVED.");
        MarriedMap x = Due.duchy("20;05", "m081;w020;w130;m151");
        x.wed(0, 2, 0, 12);
        doc.is(13, "moved(0): 6, but land 1 has 5", x.moved(0), 5);
        widths(x, 1, 25, 0);
        x.wed(0, 1, 3, 12);
        doc.is(13, "moved(1): 4 to land 1", x.moved(1), -4);
        widths(x, 2, 21, 4);
        doc.said("A PARTING: what their WEDDING MOVED goes from the LAND that took it (or all that this has, if it is less)"
                + " to NOBODY; both are free.");
        x.ends(0, 0, 2);
        doc.is(13, "moved(2): 5, not 6", x.moved(2), 5);
        doc.is(16, "nobody(3)", x.nobody(3), 5);
        widths(x, 3, 16, 4);
        doc.is(15, "state(0, 3, 0)", x.state(0, 3, 0), NONE);
        doc.is(15, "state(2, 3, 0)", x.state(2, 3, 0), NONE);
        doc.is(15, "state(1, 3, 0): others are wed", x.state(1, 3, 0), 3);
        x.wed(0, 0, 2, 12);
        widths(x, 4, 20, 0);
        x.ends(0, 0, 3);
        doc.is(13, "moved(4): land 1 took 4, and has nothing", x.moved(4), 0);
        doc.is(16, "nobody(5)", x.nobody(5), 5);
        doc.said("A DEATH: of one who is wed: as much goes to the PROVINCE of the other one, who is free then; of others"
                + " nothing.");
        x.ends(0, 1, 0);
        doc.is(13, "moved(5)", x.moved(5), 4);
        doc.is(15, "state(2, 6, 1)", x.state(2, 6, 1), 4);
        doc.is(15, "state(2, 6, 0): she is free", x.state(2, 6, 0), NONE);
        doc.is(15, "state(0, 6, 2)", x.state(0, 6, 2), 0);
        doc.is(16, "nobody(6): as it was", x.nobody(6), 5);
        widths(x, 6, 16, 0);
        x.ends(0, 1, 1);
        doc.is(13, "moved(6) of one who is not wed", x.moved(6), 0);
        widths(x, 7, 16, 0);
        doc.is(12, "judged(): all by the law", x.judged(), NONE);
    }

    private void sheetsAndFindings() {
        doc.said("SHEETS 0 .. 3 are LOST (at first) or a row of a FORM: 0 bytes, 1 shorts, 2 ints, of 0 to 60 items (0 at"
                + " first).");
        int[] kept = {0x78, 0x5678, 0x12345678};
        for (int s = 0; s < 4; s++) {
            for (int form = 0; form < 3; form++) {
                MarriedMap x = new MarriedMap();
                doc.is(28, "lose(" + s + ")", x.lose(s), -11);
                doc.is(27, "sheet(" + s + ", " + form + ", 60)", x.sheet(s, form, 60), 60);
                doc.is(30, "get: 0 at first", x.get(s, form, 59), 0);
                x.lay(s, form, 59, 0x12345678);
                doc.is(30, "get: the bits of its form", x.get(s, form, 59), kept[form]);
                x.lay(s, form, 59, -1);
                doc.is(30, "get: a number below 0", x.get(s, form, 59), -1);
                doc.is(27, "sheet(" + s + ", " + form + ", 0)", x.sheet(s, form, 0), 0);
                doc.is(27, "sheet(" + s + ", " + form + ", 61)", x.sheet(s, form, 61), BAD);
                doc.is(28, "lose(" + s + ")", x.lose(s), 0);
                doc.is(28, "lose(" + s + ")", x.lose(s), -11);
            }
        }
        doc.said("FINDINGS (answers -10 less the number; they change nothing but count() 8): 1 NULL: the SHEET is LOST; 2"
                + " INDEX: there is no such item; 3 CAST: it has another FORM; 4 STORE: unlike FORMS; 5 SIZE: below 0.");
        for (int number = 1; number <= 5; number++) {
            MarriedMap x = Situation.SOME.made();
            doc.is(28, "finding " + number, find(x, number), -10 - number);
            List<Long> behind = Whole.of(x);
            List<Long> before = Whole.of(Situation.SOME.made());
            doc.is(33, "count(8)", behind.get(Whole.FINDING), number);
            behind.set(Whole.FINDING, 0L);
            doc.so(33, "nothing but count(8) is another one behind finding " + number, behind.equals(before));
        }
    }

    private static int find(MarriedMap x, int number) {
        switch (number) {
            case 1:
                return x.lay(3, 1, 0, 9);
            case 2:
                return x.lay(1, 1, 4, 9);
            case 3:
                return x.lay(1, 2, 0, 9);
            case 4:
                return x.copy(1, 0, 2, 0, 1);
            default:
                return x.sheet(1, 2, -1);
        }
    }

    private void behindEvents() {
        doc.said("So it is behind k EVENTS (0 to as many as there are): WIDTH of a LAND; to whom one is wed; what is"
                + " NOBODY's; the PROVINCE of one; whether one is alive.");
        MarriedMap x = Due.duchy("30;30", "m031;w110;w110");
        x.wed(0, 0, 1, 12);
        x.ends(1, 0, 0);
        x.wed(2, 2, 0, 13);
        x.ends(3, 1, 2);
        int[][] due = {{30, 30, NONE, 0, 0, 1}, {33, 27, 1, 0, 0, 1}, {30, 27, NONE, 3, 0, 1}, {36, 21, 2, 3, 0, 1},
            {30, 21, NONE, 3, 6, 0}};
        for (int k = 0; k <= 4; k++) {
            widths(x, k, due[k][0], due[k][1]);
            doc.is(15, "state(0, " + k + ", 0)", x.state(0, k, 0), due[k][2]);
            doc.is(16, "nobody(" + k + ")", x.nobody(k), due[k][3]);
            doc.is(15, "state(0, " + k + ", 1)", x.state(0, k, 1), due[k][4]);
            doc.is(15, "state(2, " + k + ", 2)", x.state(2, k, 2), due[k][5]);
        }
        for (int k : new int[] {-1, 5}) {
            doc.is(14, "width(0, " + k + ")", x.width(0, k), BAD);
            doc.is(15, "state(0, " + k + ", 0)", x.state(0, k, 0), BAD);
            doc.is(16, "nobody(" + k + ")", x.nobody(k), BAD);
        }
        doc.said("What an EVENT MOVED (a WEDDING: above 0, if the LAND with the lesser number took it, below 0, if the other"
                + " one did; PARTINGS, DEATHS: what went away).");
        int[] moved = {3, 3, 6, 6};
        for (int event = 0; event < 4; event++) {
            doc.is(13, "moved(" + event + ")", x.moved(event), moved[event]);
        }
        MarriedMap y = Due.duchy("30;30;30", "w131;m010;m210");
        y.wed(0, 0, 1, 12);
        y.ends(0, 0, 0);
        y.wed(0, 0, 2, 12);
        y.ends(0, 1, 0);
        int[] ofLandOne = {-3, 3, 3, 3};
        for (int event = 0; event < 4; event++) {
            doc.is(13, "moved(" + event + "), land 1 takes", y.moved(event), ofLandOne[event]);
        }
    }

    /**
     * At hour 6 a man of 21 hands' shadow and one of 28 in land 1, women of 7 on both sides: 14 and 21 hands,
     * of which land 0 has but 10.
     */
    private void reachAndGrows() {
        doc.said("REACH, behind all EVENTS: weddings are added, one behind the other, by the LAW, at HOUR 6, under no clouds,"
                + " each of one of a LAND with one of a neighbour: the fewest by which that LAND is as wide as told (0 to"
                + " 999) or wider; NONE.");
        MarriedMap x = Due.duchy("10;20;50", "m130;m140;w010;w210;w299");
        x.cloud(0, 1);
        int[] told = {0, 20, 21, 41, 42, 51, 52, 999};
        int[] fewest = {0, 0, 1, 1, 2, 2, NONE, NONE};
        for (int i = 0; i < told.length; i++) {
            doc.is(17, "reach(1, " + told[i] + ")", x.reach(1, told[i]), fewest[i]);
        }
        doc.is(17, "reach(2, 70): all that land 1 has", x.reach(2, 70), 1);
        doc.is(17, "reach(2, 71)", x.reach(2, 71), NONE);
        doc.is(17, "reach(0, 11): her shadow is short", x.reach(0, 11), NONE);
        doc.is(33, "count(4): none is told more", x.count(4), 0);
        doc.said("GROWS: how wide it can become by k (0 to 4) such weddings at most.");
        int[] grown = {20, 41, 51, 51, 51};
        for (int k = 0; k <= 4; k++) {
            doc.is(18, "grows(1, " + k + ")", x.grows(1, k), grown[k]);
        }
        x.ends(0, 1, 1);
        doc.is(18, "grows(1, 4) behind a death", x.grows(1, 4), 34);
        x.wed(0, 0, 3, 6);
        doc.is(18, "grows(1, 4) behind a wedding under clouds", x.grows(1, 4), 20);
        doc.is(17, "reach(1, 21) behind it", x.reach(1, 21), NONE);
    }

    private void leave() {
        doc.said("LEAVE, behind all EVENTS: two who are wed, but not to one another, an m and a w of LANDS next to one"
                + " another, would leave theirs, if each has a lesser HEIGHT than the one to whom the other is wed: how many"
                + " such pairs.");
        MarriedMap x = Due.duchy("50;50;50", "m020;w150;m060;w130;w210;m170");
        doc.is(19, "leave() of none who are wed", x.leave(), 0);
        x.wed(0, 0, 1, 12);
        x.wed(0, 2, 3, 12);
        doc.is(19, "leave(): 2 is less than 6, and 3 than 5", x.leave(), 1);
        x.wed(0, 4, 5, 12);
        doc.is(19, "leave(): the woman of land 2 is too far away", x.leave(), 1);
        x.ends(0, 0, 3);
        doc.is(19, "leave() behind a parting", x.leave(), 0);
        doc.said("(Each wants the one with the least.)");
        MarriedMap y = Due.duchy("50;50", "m029;w150;m060;w139");
        y.wed(0, 0, 1, 12);
        y.wed(0, 2, 3, 12);
        doc.is(19, "leave(): hats count nothing", y.leave(), 1);
        MarriedMap like = Due.duchy("50;50", "m030;w150;m030;w130");
        like.wed(0, 0, 1, 12);
        like.wed(0, 2, 3, 12);
        doc.is(19, "leave(): like ones are not lesser", like.leave(), 0);
    }

    private void surveys() {
        doc.said("SURVEYS, 8 at most: the WIDTH of a LAND (0 to 5) behind k EVENTS was measured (0 to 999).");
        MarriedMap many = new MarriedMap();
        for (int i = 0; i < 8; i++) {
            doc.is(20, "survey(..)", many.survey(i % 6, 3 * i, 142 * i), i + 1);
        }
        doc.is(20, "survey(0, 0, 0): one too many", many.survey(0, 0, 0), FULL);
        doc.said("FORGED: of one of the PEOPLE the HEIGHTS (1 to 9) by which all SURVEYS that can be asked (a LAND that there"
                + " is, as many EVENTS as there are or fewer) come out so, all else as told: as bits (HEIGHT 1: bit 0); UNLIKE:"
                + " how many SURVEYS come out otherwise, as all is (those that cannot be asked, too).");
        MarriedMap x = Due.duchy("50;04", "m051;w120");
        x.wed(0, 0, 1, 12);
        x.survey(0, 0, 50);
        doc.is(22, "forged(0): any", x.forged(0), 511);
        x.survey(0, 1, 54);
        doc.is(22, "forged(0): 5 to 9, by which all is taken", x.forged(0), 0b111110000);
        doc.is(22, "forged(1): 1 and 2", x.forged(1), 0b11);
        doc.is(23, "unlike()", x.unlike(), 0);
        x.survey(2, 0, 7);
        x.survey(0, 2, 7);
        doc.is(22, "forged(0): two that cannot be asked", x.forged(0), 0b111110000);
        doc.is(23, "unlike(): two that cannot be asked", x.unlike(), 2);
        x.survey(1, 1, 1);
        doc.is(22, "forged(0): none", x.forged(0), 0);
        doc.is(23, "unlike()", x.unlike(), 3);
        x.forget();
        x.survey(1, 1, 1);
        doc.is(22, "forged(0): 4", x.forged(0), 0b1000);
        doc.is(22, "forged(1): 3", x.forged(1), 0b100);
    }

    private void withoutAndBlame() {
        doc.said("WITHOUT an EVENT: the WIDTH of a LAND behind all others; BLAME: the EVENT without which a LAND would be"
                + " widest (wider than it is), of like ones the least; NONE.");
        MarriedMap x = Due.duchy("40;40", "m030;m050;m050;w110;w110;w110");
        for (int i = 0; i < 3; i++) {
            x.wed(i, i, 3 + i, 12);
        }
        widths(x, 3, 50, 30);
        int[] without = {48, 46, 46};
        for (int event = 0; event < 3; event++) {
            doc.is(24, "without(" + event + ", 0)", x.without(event, 0), without[event]);
            doc.is(24, "without(" + event + ", 1)", x.without(event, 1), 80 - without[event]);
        }
        doc.is(25, "blame(1): of like ones the least", x.blame(1), 1);
        doc.is(25, "blame(0): it would be wider without none", x.blame(0), NONE);
        x.ends(9, 0, 1);
        doc.is(24, "without(1, 1): the parting does nothing then", x.without(1, 1), 34);
        doc.is(25, "blame(0): the parting", x.blame(0), 3);
    }

    /** Shadows at hour 6: men of 14 and 28 in land 0; women of 7 and 21, one of whom is not free at first, in land 1. */
    private void turns() {
        doc.said("TURNS: the lords of two LANDS next to one another marry in turn, the first of them first, behind all"
                + " EVENTS, at HOUR 6, under no clouds: each weds one of one's own LAND to one of the other (by LAW), as long"
                + " as there are two who may; each wants the WIDTH of one's own less that of the other one as great as can"
                + " be at the end: what that is for the first; the first wedding (of like ones the least of 12 times the one"
                + " of the first LAND, and the other one); NONE.");
        MarriedMap x = Due.duchy("40;40;40", "m020;m040;w110;w130;m210");
        x.cloud(0, 1);
        x.wed(0, 3, 4, 12);
        lords(x, 0, 1, 2 * 21, 12 + 2);
        lords(x, 1, 0, -2 * 7, 12 * 2);
        x.ends(1, 1, 4);
        lords(x, 0, 1, 2 * 14, 2);
        lords(x, 1, 0, -2 * 14, 12 * 2);
        MarriedMap narrow = Due.duchy("40;05;40", "m020;m040;w110;w130");
        lords(narrow, 0, 1, 45, 2);
        lords(narrow, 1, 0, -31, 12 * 2 + 1);
        MarriedMap none = Due.duchy("40;30", "m020;m140");
        lords(none, 0, 1, 10, NONE);
        lords(none, 1, 0, -10, NONE);
        doc.said("With more than 4 in one of both LANDS who are alive and not wed: FULL.");
        MarriedMap four = Due.duchy("40;30", "m020;m020;m020;m020");
        lords(four, 0, 1, 10, NONE);
        MarriedMap five = Due.duchy("40;30", "m020;m020;m020;m020;m020;w110");
        lords(five, 0, 1, -10004, -10004);
        lords(five, 1, 0, -10004, -10004);
        five.wed(0, 0, 5, 12);
        lords(five, 0, 1, 12, NONE);
        five.ends(0, 0, 0);
        five.ends(0, 1, 4);
        lords(five, 0, 1, 11 + 2 * 7, 5);
    }

    private void lords(MarriedMap x, int a, int b, int end, int first) {
        doc.is(26, "lords(" + a + ", " + b + ", 0)", x.lords(a, b, 0), end);
        doc.is(26, "lords(" + a + ", " + b + ", 1)", x.lords(a, b, 1), first);
    }

    private void refusals() {
        doc.said("Refusals, the first that fits, in the order told at each act: BAD -2 (a number not as told, no such"
                + " thing), NULL, NOT -3 (as told), FULL -4, other FINDINGS.");
        MarriedMap x = new MarriedMap();
        for (int i = 0; i < 24; i++) {
            x.ends(9, 0, 0);
        }
        doc.is(8, "wed(9, 0, 1, 5): BAD ahead of FULL", x.wed(9, 0, 1, 5), BAD);
        doc.is(8, "wed(8, 0, 1, 6): BAD ahead of FULL", x.wed(8, 0, 1, 6), BAD);
        doc.is(8, "wed(9, 0, 1, 6): FULL", x.wed(9, 0, 1, 6), FULL);
        doc.is(10, "read(0, 8): BAD ahead of NULL", x.read(0, 8), BAD);
        doc.is(10, "read(0, 9): NULL", x.read(0, 9), -11);
        doc.is(11, "undo(): NOT", new MarriedMap().undo(), NOT);
        doc.is(27, "sheet(0, 3, -1): BAD ahead of SIZE", x.sheet(0, 3, -1), BAD);
        doc.is(27, "sheet(0, 2, -1): SIZE", x.sheet(0, 2, -1), -15);
        x.sheet(0, 2, 1);
        x.sheet(1, 1, 1);
        doc.is(29, "lay(0, 3, 1, 0): BAD ahead of all", x.lay(0, 3, 1, 0), BAD);
        doc.is(29, "lay(2, 1, 1, 0): NULL ahead of CAST and INDEX", x.lay(2, 1, 1, 0), -11);
        doc.is(29, "lay(0, 1, 1, 0): CAST ahead of INDEX", x.lay(0, 1, 1, 0), -13);
        doc.is(29, "lay(0, 2, 1, 0): INDEX", x.lay(0, 2, 1, 0), -12);
        doc.is(31, "copy(2, 0, 4, 0, 0): BAD ahead of NULL", x.copy(2, 0, 4, 0, 0), BAD);
        doc.is(31, "copy(0, 9, 2, 0, 0): NULL ahead of STORE and INDEX", x.copy(0, 9, 2, 0, 0), -11);
        doc.is(31, "copy(0, 9, 1, 0, 0): STORE ahead of INDEX", x.copy(0, 9, 1, 0, 0), -14);
        doc.is(31, "copy(0, 9, 0, 0, 0): INDEX", x.copy(0, 9, 0, 0, 0), -12);
        doc.is(5, "person(0, 0): no such thing", x.person(0, 0), BAD);
        doc.said("They change nothing (FINDINGS but count() 8).");
        for (Situation in : Situation.values()) {
            MarriedMap refused = in.made();
            int found = refused.count(8);
            refuseMuch(refused);
            doc.is(33, "count(8): BAD is no finding", refused.count(8), found);
            doc.so(33, "all is as it was: " + in, Whole.of(refused).equals(Whole.of(in.made())));
        }
        doc.said("Where any number is told, a refusal is -10000 less x.");
        doc.is(13, "moved(24)", x.moved(24), -10002);
        doc.is(26, "lords(0, 1, 0)", x.lords(0, 1, 0), -10002);
        MarriedMap five = Due.duchy("40;30", "m111;m111;m111;m111;m111");
        doc.is(26, "lords(0, 1, 0) of five", five.lords(0, 1, 0), -10004);
        MarriedMap less = Due.duchy("30;32", "m010;w130");
        less.wed(0, 0, 1, 12);
        doc.is(13, "moved(0): -2 is no refusal there", less.moved(0), -2);
        less.undo();
        less.ends(0, 1, 0);
        doc.is(26, "lords(0, 1, 0): -2 is no refusal there", less.lords(0, 1, 0), -2);
    }

    /** Each call once with numbers of which none may be. */
    private void refuseMuch(MarriedMap x) {
        Calls calls = new Calls(x);
        for (int call = 0; call < Calls.NAMES.size(); call++) {
            if (!List.of("undo", "judged", "leave", "forget", "unlike").contains(Calls.NAMES.get(call))) {
                int answer = calls.answer(call, new int[] {-7, -7, -7, -7, -7});
                doc.so(call + 2, Calls.NAMES.get(call) + " of -7 is BAD", answer == BAD || answer == -10002 || answer == LEAST);
            }
        }
    }

    private void headings() throws IOException {
        String file = Files.readString(Path.of("src/main/java/MarriedMap.java"));
        heading(file, "lands, people", "events", "type", "wipe", "fault", "person", "shadow", "cloud");
        heading(file, "events", "whom to marry", "wed", "ends", "read", "undo", "judged", "moved", "width", "state", "nobody");
        heading(file, "whom to marry", "surveys, blame", "reach", "grows", "leave");
        heading(file, "surveys, blame", "in turn", "survey", "forget", "forged", "unlike", "without", "blame");
        heading(file, "in turn", "sheets", "lords");
        heading(file, "sheets", "", "sheet", "lose", "lay", "get", "copy", "write", "count", "digest");
    }

    private void heading(String file, String heading, String next, String... calls) {
        doc.said("Ahead of the calls `" + String.join("`, `", calls) + "` the interface says: ---- " + heading + ".");
        int begin = file.indexOf("// ---- " + heading + "\n");
        int end = next.isEmpty() ? file.length() : file.indexOf("// ---- " + next + "\n");
        doc.so(NO_PROMISE, "the file says: " + heading, begin >= 0 && end > begin);
        int before = begin;
        for (String call : calls) {
            int at = file.indexOf(" " + call + "(", file.indexOf("    public ", before));
            doc.so(NO_PROMISE, call + " behind " + heading + ", in its order", at > before && at < end);
            before = at;
        }
    }
}
