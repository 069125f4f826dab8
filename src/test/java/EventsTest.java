/** Promises 8 to 16. */
public final class EventsTest {
    private static final Due DUE = new Due("EventsTest");
    private static final int[] FAR = {Integer.MIN_VALUE, -1000, -1, 1000, Integer.MAX_VALUE};
    /** In 0: a man of 7, a woman of 9; in 1: a woman of 3, a man of 12; in 2: a woman of 2, a man of 18. */
    private static final String PEOPLE = "m052;w081;w130;m193;w220;m299";

    public static void main(String[] args) {
        weddingsTold();
        endsTold();
        weddingsRead();
        undone();
        law();
        lawOfEnds();
        weddingsMove();
        cloudsMoveNothing();
        partings();
        partingsOfOneHand();
        deaths();
        lessThanMoved();
        behind();
        allAsToldNow();
        DUE.end();
    }

    private static MarriedMap duchy() {
        return Due.duchy("50;40;30", PEOPLE);
    }

    private static void weddingsTold() {
        MarriedMap x = new MarriedMap();
        DUE.is(8, "wed(52, 0, 1, 12)", x.wed(52, 0, 1, 12), MarriedMap.BAD);
        DUE.is(8, "wed(-1, 0, 1, 12)", x.wed(-1, 0, 1, 12), MarriedMap.BAD);
        DUE.is(8, "wed(0, 12, 1, 12)", x.wed(0, 12, 1, 12), MarriedMap.BAD);
        DUE.is(8, "wed(0, -1, 1, 12)", x.wed(0, -1, 1, 12), MarriedMap.BAD);
        DUE.is(8, "wed(0, 0, 12, 12)", x.wed(0, 0, 12, 12), MarriedMap.BAD);
        DUE.is(8, "wed(0, 0, -1, 12)", x.wed(0, 0, -1, 12), MarriedMap.BAD);
        DUE.is(8, "wed(0, 0, 1, 5)", x.wed(0, 0, 1, 5), MarriedMap.BAD);
        DUE.is(8, "wed(0, 0, 1, 19)", x.wed(0, 0, 1, 19), MarriedMap.BAD);
        for (int far : FAR) {
            DUE.is(8, "wed(" + far + ", 0, 1, 12)", x.wed(far, 0, 1, 12), MarriedMap.BAD);
            DUE.is(8, "wed(0, " + far + ", 1, 12)", x.wed(0, far, 1, 12), MarriedMap.BAD);
            DUE.is(8, "wed(0, 0, " + far + ", 12)", x.wed(0, 0, far, 12), MarriedMap.BAD);
            DUE.is(8, "wed(0, 0, 1, " + far + ")", x.wed(0, 0, 1, far), MarriedMap.BAD);
        }
        DUE.is(8, "count(4)", x.count(4), 0);
        for (int i = 1; i <= 24; i++) {
            DUE.is(8, "wed, in week " + i, x.wed(i, 11, 11, i % 2 == 0 ? 6 : 18), i);
            DUE.is(8, "wed, a week before", x.wed(i - 1, 0, 1, 12), MarriedMap.BAD);
        }
        DUE.is(8, "wed(51, 0, 1, 12)", x.wed(51, 0, 1, 12), MarriedMap.FULL);
        DUE.is(8, "wed(24, 0, 1, 12)", x.wed(24, 0, 1, 12), MarriedMap.FULL);
        DUE.is(8, "wed(23, 0, 1, 12)", x.wed(23, 0, 1, 12), MarriedMap.BAD);
        DUE.is(8, "wed(51, 0, 1, 5)", x.wed(51, 0, 1, 5), MarriedMap.BAD);
        DUE.is(8, "count(4)", x.count(4), 24);
        MarriedMap y = new MarriedMap();
        DUE.is(8, "wed(51, 0, 1, 12)", y.wed(51, 0, 1, 12), 1);
        DUE.is(8, "wed(51, 0, 1, 12)", y.wed(51, 0, 1, 12), 2);
    }

    private static void endsTold() {
        MarriedMap x = new MarriedMap();
        DUE.is(9, "ends(52, 0, 0)", x.ends(52, 0, 0), MarriedMap.BAD);
        DUE.is(9, "ends(0, 2, 0)", x.ends(0, 2, 0), MarriedMap.BAD);
        DUE.is(9, "ends(0, 0, 12)", x.ends(0, 0, 12), MarriedMap.BAD);
        for (int far : FAR) {
            DUE.is(9, "ends(" + far + ", 0, 0)", x.ends(far, 0, 0), MarriedMap.BAD);
            DUE.is(9, "ends(0, " + far + ", 0)", x.ends(0, far, 0), MarriedMap.BAD);
            DUE.is(9, "ends(0, 0, " + far + ")", x.ends(0, 0, far), MarriedMap.BAD);
        }
        for (int i = 1; i <= 24; i++) {
            DUE.is(9, "ends, in week 9", x.ends(9, i % 2, i % 12), i);
            DUE.is(9, "ends, in week 8", x.ends(8, 0, 0), MarriedMap.BAD);
        }
        DUE.is(9, "ends(9, 1, 11)", x.ends(9, 1, 11), MarriedMap.FULL);
        DUE.is(9, "ends(9, 1, 12)", x.ends(9, 1, 12), MarriedMap.BAD);
        DUE.is(9, "ends(8, 1, 11)", x.ends(8, 1, 11), MarriedMap.BAD);
    }

    private static void lay(MarriedMap x, int form, int... items) {
        x.sheet(0, form, items.length);
        for (int i = 0; i < items.length; i++) {
            x.lay(0, form, i, items[i]);
        }
    }

    private static void weddingsRead() {
        MarriedMap x = duchy();
        DUE.is(10, "read(0, 0)", x.read(0, 0), -11);
        DUE.is(10, "count(8)", x.count(8), 1);
        DUE.is(10, "read(4, 0)", x.read(4, 0), MarriedMap.BAD);
        DUE.is(10, "read(-1, 0)", x.read(-1, 0), MarriedMap.BAD);
        DUE.is(10, "read(0, 52)", x.read(0, 52), MarriedMap.BAD);
        DUE.is(10, "read(0, -1)", x.read(0, -1), MarriedMap.BAD);
        for (int form = 0; form < 3; form++) {
            lay(x, form, 0, 2, 12, 3, 4, 6, 1);
            DUE.is(10, "read(0, 3), of form " + form, x.read(0, 3), 2);
            DUE.is(10, "count(4)", x.count(4), 2);
            DUE.is(10, "moved(0)", x.moved(0), 4);
            DUE.is(10, "moved(1)", x.moved(1), 30);
            DUE.is(10, "read(0, 2)", x.read(0, 2), MarriedMap.BAD);
            x.undo();
            x.undo();
        }
        int[][] wrong = {{12, 0, 12}, {-1, 0, 12}, {0, 12, 12}, {0, -1, 12}, {0, 2, 5}, {0, 2, 19}};
        for (int[] w : wrong) {
            lay(x, 2, 0, 2, 12, w[0], w[1], w[2], 3, 4, 6);
            DUE.is(10, "read(0, 3), the second not as told", x.read(0, 3), 1);
            x.undo();
        }
        lay(x, 1, 0, 2, 12);
        DUE.is(10, "read(0, 3) of three items", x.read(0, 3), 1);
        x.undo();
        lay(x, 1, 0, 2);
        DUE.is(10, "read(0, 3) of two items", x.read(0, 3), 0);
        lay(x, 1);
        DUE.is(10, "read(0, 3) of no items", x.read(0, 3), 0);
        for (int i = 0; i < 23; i++) {
            x.ends(5, 0, 0);
        }
        lay(x, 0, 0, 2, 12, 3, 4, 6);
        DUE.is(10, "read(0, 4)", x.read(0, 4), MarriedMap.BAD);
        DUE.is(10, "read(0, 5) with room for one", x.read(0, 5), 1);
        DUE.is(10, "read(0, 5) with no room", x.read(0, 5), 0);
        DUE.is(10, "count(4)", x.count(4), 24);
        x.lose(0);
        DUE.is(10, "read(0, 4) of a lost one", x.read(0, 4), MarriedMap.BAD);
        DUE.is(10, "read(0, 5) of a lost one", x.read(0, 5), -11);
    }

    private static void undone() {
        MarriedMap x = duchy();
        DUE.is(11, "undo()", x.undo(), MarriedMap.NOT);
        x.wed(3, 0, 2, 12);
        x.ends(9, 0, 0);
        DUE.is(11, "undo()", x.undo(), 1);
        DUE.is(11, "state(0, 1, 0)", x.state(0, 1, 0), 2);
        DUE.is(11, "state(0, 2, 0)", x.state(0, 2, 0), MarriedMap.BAD);
        DUE.is(11, "wed(2, 3, 4, 12)", x.wed(2, 3, 4, 12), MarriedMap.BAD);
        DUE.is(11, "wed(3, 3, 4, 12)", x.wed(3, 3, 4, 12), 2);
        DUE.is(11, "undo()", x.undo(), 1);
        DUE.is(11, "undo()", x.undo(), 0);
        DUE.is(11, "width(0, 0)", x.width(0, 0), 50);
        DUE.is(11, "undo()", x.undo(), MarriedMap.NOT);
        DUE.is(11, "ends(0, 1, 3)", x.ends(0, 1, 3), 1);
    }

    private static void law() {
        against("one with oneself", 0, 0, 0);
        against("two men", 0, 0, 3);
        against("two women", 0, 1, 2);
        against("of one land", 0, 0, 1);
        against("of lands that are two apart", 0, 0, 4);
        against("one who is not there", 0, 0, 6);
        against("one who is not there", 0, 11, 0);
        against("one who is wed", 2, 0, 2, 2, 5);
        against("one who is wed", 2, 0, 2, 5, 2);
        for (int[] couple : new int[][] {{0, 2}, {2, 0}, {1, 3}, {3, 4}, {4, 3}, {2, 5}}) {
            MarriedMap x = duchy();
            x.wed(0, couple[0], couple[1], 12);
            DUE.is(12, "judged() of " + couple[0] + " and " + couple[1], x.judged(), MarriedMap.NONE);
            DUE.is(15, "state(..)", x.state(couple[0], 1, 0), couple[1]);
            DUE.is(15, "state(..)", x.state(couple[1], 1, 0), couple[0]);
        }
        MarriedMap x = duchy();
        DUE.is(12, "judged()", x.judged(), MarriedMap.NONE);
        x.wed(0, 0, 2, 12);
        x.wed(0, 5, 2, 12);
        x.wed(0, 0, 0, 12);
        DUE.is(12, "judged()", x.judged(), 1);
        DUE.is(33, "count(5)", x.count(5), 2);
        x.undo();
        x.undo();
        DUE.is(12, "judged()", x.judged(), MarriedMap.NONE);
    }

    /** The couples marry one behind the other, the last of them against the law. */
    private static void against(String why, int lawful, int... people) {
        MarriedMap x = duchy();
        for (int i = 0; i + 1 < people.length; i += 2) {
            x.wed(0, people[i], people[i + 1], 6);
        }
        int last = people.length / 2 - 1;
        DUE.is(12, "judged(): " + why, x.judged(), last);
        DUE.is(13, "moved(" + last + "): " + why, x.moved(last), 0);
        for (int land = 0; land < 3; land++) {
            DUE.is(14, "width(" + land + "): " + why, x.width(land, last + 1), x.width(land, last));
        }
        for (int person = 0; person < 6; person++) {
            DUE.is(15, "state(" + person + "): " + why, x.state(person, last + 1, 0), x.state(person, last, 0));
        }
        DUE.is(33, "count(5): " + why, x.count(5), 1);
        DUE.is(15, "how many are wed", countWed(x, last + 1), lawful);
    }

    private static int countWed(MarriedMap x, int k) {
        int wed = 0;
        for (int person = 0; person < 6; person++) {
            wed += x.state(person, k, 0) == MarriedMap.NONE ? 0 : 1;
        }
        return wed;
    }

    private static void lawOfEnds() {
        MarriedMap x = duchy();
        x.ends(0, 0, 0);
        DUE.is(12, "judged() of a parting of one who is free", x.judged(), 0);
        x.undo();
        x.ends(0, 1, 6);
        DUE.is(12, "judged() of a death of one who is not there", x.judged(), 0);
        x.undo();
        x.ends(0, 0, 11);
        DUE.is(12, "judged() of a parting of one who is not there", x.judged(), 0);
        x.undo();
        x.ends(0, 1, 0);
        DUE.is(12, "judged() of a death", x.judged(), MarriedMap.NONE);
        DUE.is(15, "state(0, 1, 2)", x.state(0, 1, 2), 0);
        x.wed(0, 0, 2, 12);
        DUE.is(12, "judged() of a wedding of a dead one", x.judged(), 1);
        x.undo();
        x.ends(0, 1, 0);
        DUE.is(12, "judged() of a second death", x.judged(), 1);
        MarriedMap y = duchy();
        y.wed(0, 0, 2, 12);
        y.ends(0, 1, 0);
        y.ends(0, 0, 2);
        DUE.is(12, "judged() of a parting of a widow", y.judged(), 2);
        y.undo();
        y.wed(0, 2, 5, 12);
        DUE.is(12, "judged() of a wedding of a widow", y.judged(), MarriedMap.NONE);
        MarriedMap z = duchy();
        z.wed(0, 0, 2, 12);
        z.ends(0, 0, 2);
        z.ends(0, 0, 0);
        DUE.is(12, "judged() of a second parting", z.judged(), 2);
        z.undo();
        z.wed(0, 2, 0, 12);
        DUE.is(12, "judged() of a second wedding", z.judged(), MarriedMap.NONE);
    }

    private static void weddingsMove() {
        moves(0, 2, 12, 4, 54, 36, 30);
        moves(2, 0, 12, 4, 54, 36, 30);
        moves(0, 2, 14, 12, 62, 28, 30);
        moves(0, 2, 6, 28, 78, 12, 30);
        moves(1, 3, 12, -3, 47, 43, 30);
        moves(3, 1, 18, -21, 29, 61, 30);
        moves(3, 4, 11, 20, 50, 60, 10);
        moves(3, 4, 9, 30, 50, 70, 0);
        moves(2, 5, 12, -15, 50, 25, 45);
        moves(2, 5, 8, -40, 50, 0, 70);
        MarriedMap x = duchy();
        DUE.is(13, "moved(0)", x.moved(0), -10002);
        x.wed(0, 0, 2, 12);
        DUE.is(13, "moved(1)", x.moved(1), -10002);
        for (int far : FAR) {
            DUE.is(13, "moved(" + far + ")", x.moved(far), -10002);
        }
        MarriedMap like = Due.duchy("50;40", "m052;w125");
        like.wed(0, 0, 1, 6);
        DUE.is(13, "moved(0) of like shadows", like.moved(0), 0);
        DUE.is(15, "state(0, 1, 0) of like shadows", like.state(0, 1, 0), 1);
    }

    private static void moves(int a, int b, int hour, int moved, int... widths) {
        MarriedMap x = duchy();
        x.wed(0, a, b, hour);
        String call = "wed(0, " + a + ", " + b + ", " + hour + ")";
        DUE.is(13, "moved(0) of " + call, x.moved(0), moved);
        for (int land = 0; land < 3; land++) {
            DUE.is(14, "width(" + land + ", 1) of " + call, x.width(land, 1), widths[land]);
        }
    }

    private static void cloudsMoveNothing() {
        MarriedMap last = duchy();
        last.cloud(51, 1);
        last.wed(51, 0, 2, 6);
        DUE.is(13, "moved(0) under clouds of the last week", last.moved(0), 0);
        MarriedMap x = duchy();
        x.cloud(7, 1);
        x.wed(6, 0, 2, 6);
        x.wed(7, 3, 4, 6);
        DUE.is(13, "moved(0)", x.moved(0), 28);
        DUE.is(13, "moved(1) under clouds", x.moved(1), 0);
        DUE.is(15, "state(3, 2, 0)", x.state(3, 2, 0), 4);
        DUE.is(12, "judged()", x.judged(), MarriedMap.NONE);
        x.ends(7, 0, 0);
        DUE.is(13, "moved(2), a parting under clouds", x.moved(2), 28);
        x.ends(7, 0, 4);
        DUE.is(13, "moved(3), of what moved nothing", x.moved(3), 0);
    }

    private static void partings() {
        for (int one : new int[] {0, 2}) {
            MarriedMap x = duchy();
            x.wed(0, 0, 2, 12);
            x.ends(0, 0, one);
            DUE.is(13, "moved(1)", x.moved(1), 4);
            DUE.is(16, "nobody(0)", x.nobody(0), 0);
            DUE.is(16, "nobody(1)", x.nobody(1), 0);
            DUE.is(16, "nobody(2)", x.nobody(2), 4);
            DUE.is(14, "width(0, 2)", x.width(0, 2), 50);
            DUE.is(14, "width(1, 2)", x.width(1, 2), 36);
            DUE.is(15, "state(0, 2, 0)", x.state(0, 2, 0), MarriedMap.NONE);
            DUE.is(15, "state(2, 2, 0)", x.state(2, 2, 0), MarriedMap.NONE);
            DUE.is(15, "state(0, 2, 2)", x.state(0, 2, 2), 1);
            DUE.is(15, "state(0, 2, 1)", x.state(0, 2, 1), 0);
            x.wed(0, 1, 3, 12);
            x.ends(0, 0, 1);
            DUE.is(13, "moved(3), from the land of the greater number", x.moved(3), 3);
            DUE.is(16, "nobody(4)", x.nobody(4), 7);
            DUE.is(14, "width(1, 4)", x.width(1, 4), 36);
            DUE.is(14, "width(0, 4)", x.width(0, 4), 47);
        }
    }

    private static void partingsOfOneHand() {
        MarriedMap x = Due.duchy("50;40", "m020;w110;m120;w010");
        x.wed(0, 0, 1, 12);
        x.ends(0, 0, 0);
        DUE.is(14, "width(0, 2)", x.width(0, 2), 50);
        DUE.is(14, "width(1, 2)", x.width(1, 2), 39);
        x.wed(0, 2, 3, 12);
        x.ends(0, 0, 2);
        DUE.is(14, "width(0, 4)", x.width(0, 4), 49);
        DUE.is(14, "width(1, 4)", x.width(1, 4), 39);
    }

    private static void deaths() {
        for (int dead : new int[] {0, 2}) {
            int widowed = 2 - dead;
            MarriedMap x = duchy();
            x.wed(0, 0, 2, 12);
            x.ends(0, 1, dead);
            DUE.is(13, "moved(1)", x.moved(1), 4);
            DUE.is(16, "nobody(2)", x.nobody(2), 0);
            DUE.is(14, "width(0, 2)", x.width(0, 2), 50);
            DUE.is(15, "state(widowed, 1, 1)", x.state(widowed, 1, 1), 0);
            DUE.is(15, "state(widowed, 2, 1)", x.state(widowed, 2, 1), 4);
            DUE.is(15, "state(dead, 2, 1)", x.state(dead, 2, 1), 0);
            DUE.is(15, "state(dead, 1, 2)", x.state(dead, 1, 2), 1);
            DUE.is(15, "state(dead, 2, 2)", x.state(dead, 2, 2), 0);
            DUE.is(15, "state(widowed, 2, 2)", x.state(widowed, 2, 2), 1);
            DUE.is(15, "state(dead, 2, 0)", x.state(dead, 2, 0), MarriedMap.NONE);
            DUE.is(15, "state(widowed, 2, 0)", x.state(widowed, 2, 0), MarriedMap.NONE);
        }
        MarriedMap x = duchy();
        x.wed(0, 0, 2, 12);
        x.ends(0, 1, 0);
        x.wed(0, 2, 5, 12);
        x.ends(0, 1, 5);
        DUE.is(13, "moved(3)", x.moved(3), 15);
        DUE.is(15, "state(2, 4, 1) of one widowed twice", x.state(2, 4, 1), 19);
        x.ends(0, 1, 2);
        DUE.is(13, "moved(4) of one who is free", x.moved(4), 0);
        DUE.is(15, "state(2, 5, 1) of one who is dead", x.state(2, 5, 1), 19);
    }

    /** What the wedding moved is taken again but for what its land has lost since. */
    private static void lessThanMoved() {
        for (int kind = 0; kind <= 1; kind++) {
            MarriedMap x = Due.duchy("00;30", "m091;w110;m190;w010");
            x.wed(0, 0, 1, 10);
            DUE.is(13, "moved(0)", x.moved(0), 27);
            x.wed(0, 2, 3, 10);
            DUE.is(13, "moved(1)", x.moved(1), -24);
            x.ends(0, kind, 1);
            DUE.is(13, "moved(2)", x.moved(2), 3);
            DUE.is(14, "width(0, 3)", x.width(0, 3), 0);
            DUE.is(14, "width(1, 3)", x.width(1, 3), 27);
            DUE.is(16, "nobody(3)", x.nobody(3), kind == 0 ? 3 : 0);
            DUE.is(15, "state(0, 3, 1)", x.state(0, 3, 1), kind == 0 ? 0 : 3);
        }
    }

    private static void behind() {
        MarriedMap x = duchy();
        x.wed(0, 0, 2, 12);
        DUE.is(14, "width(0, 0)", x.width(0, 0), 50);
        DUE.is(14, "width(0, 1)", x.width(0, 1), 54);
        DUE.is(14, "width(0, 2)", x.width(0, 2), MarriedMap.BAD);
        DUE.is(14, "width(3, 0)", x.width(3, 0), MarriedMap.BAD);
        DUE.is(15, "state(0, 0, 0)", x.state(0, 0, 0), MarriedMap.NONE);
        DUE.is(15, "state(0, 2, 0)", x.state(0, 2, 0), MarriedMap.BAD);
        DUE.is(15, "state(6, 0, 0)", x.state(6, 0, 0), MarriedMap.BAD);
        DUE.is(15, "state(0, 0, 3)", x.state(0, 0, 3), MarriedMap.BAD);
        DUE.is(16, "nobody(2)", x.nobody(2), MarriedMap.BAD);
        for (int far : FAR) {
            DUE.is(14, "width(" + far + ", 0)", x.width(far, 0), MarriedMap.BAD);
            DUE.is(14, "width(0, " + far + ")", x.width(0, far), MarriedMap.BAD);
            DUE.is(15, "state(" + far + ", 0, 0)", x.state(far, 0, 0), MarriedMap.BAD);
            DUE.is(15, "state(0, " + far + ", 0)", x.state(0, far, 0), MarriedMap.BAD);
            DUE.is(15, "state(0, 0, " + far + ")", x.state(0, 0, far), MarriedMap.BAD);
            DUE.is(16, "nobody(" + far + ")", x.nobody(far), MarriedMap.BAD);
        }
    }

    /** Events are judged by the texts and the clouds that are there when it is asked. */
    private static void allAsToldNow() {
        MarriedMap x = new MarriedMap();
        x.wed(4, 0, 1, 6);
        DUE.is(12, "judged() without people", x.judged(), 0);
        Due.type(x, 0, "50;40");
        Due.type(x, 1, "m052;w130");
        DUE.is(12, "judged() with people", x.judged(), MarriedMap.NONE);
        DUE.is(13, "moved(0)", x.moved(0), 28);
        x.cloud(4, 1);
        DUE.is(13, "moved(0) under clouds", x.moved(0), 0);
        x.cloud(4, 0);
        x.wipe(1);
        DUE.is(12, "judged() without people", x.judged(), 0);
        DUE.is(14, "width(1, 1)", x.width(1, 1), 40);
        x.wipe(0);
        DUE.is(14, "width(1, 1)", x.width(1, 1), MarriedMap.BAD);
    }
}
