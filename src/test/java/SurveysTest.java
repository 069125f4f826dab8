/** Promises 20 to 25. */
public final class SurveysTest {
    private static final Due DUE = new Due("SurveysTest");
    private static final int[] FAR = {Integer.MIN_VALUE, -1000, -1, 1000, Integer.MAX_VALUE};

    public static void main(String[] args) {
        surveysTold();
        forgotten();
        forgedHeights();
        unlike();
        without();
        blamed();
        DUE.end();
    }

    /** The first wedding moves 8 to land 0, the second 30 (of 49) to land 1. */
    private static MarriedMap duchy() {
        MarriedMap x = Due.duchy("50;40;30", "m052;w130;m163;w220");
        x.wed(1, 0, 1, 13);
        x.wed(2, 2, 3, 6);
        return x;
    }

    private static void surveysTold() {
        MarriedMap x = new MarriedMap();
        DUE.is(20, "survey(6, 0, 0)", x.survey(6, 0, 0), MarriedMap.BAD);
        DUE.is(20, "survey(0, 25, 0)", x.survey(0, 25, 0), MarriedMap.BAD);
        DUE.is(20, "survey(0, 0, 1000)", x.survey(0, 0, 1000), MarriedMap.BAD);
        for (int far : FAR) {
            DUE.is(20, "survey(" + far + ", 0, 0)", x.survey(far, 0, 0), MarriedMap.BAD);
            DUE.is(20, "survey(0, " + far + ", 0)", x.survey(0, far, 0), MarriedMap.BAD);
            DUE.is(20, "survey(0, 0, " + far + ")", x.survey(0, 0, far), MarriedMap.BAD);
        }
        for (int i = 1; i <= 8; i++) {
            DUE.is(20, "survey(5, 24, 999)", x.survey(5, 24, 999), i);
        }
        DUE.is(20, "survey(0, 0, 0)", x.survey(0, 0, 0), MarriedMap.FULL);
        DUE.is(20, "survey(6, 0, 0)", x.survey(6, 0, 0), MarriedMap.BAD);
        DUE.is(33, "count(7)", x.count(7), 8);
    }

    private static void forgotten() {
        MarriedMap x = new MarriedMap();
        DUE.is(21, "forget()", x.forget(), 0);
        x.survey(0, 0, 0);
        x.survey(0, 0, 0);
        DUE.is(21, "forget()", x.forget(), 2);
        DUE.is(21, "count(7)", x.count(7), 0);
        DUE.is(21, "unlike()", x.unlike(), 0);
        DUE.is(21, "survey(0, 0, 0)", x.survey(0, 0, 0), 1);
    }

    private static void forgedHeights() {
        MarriedMap x = duchy();
        for (int person = 0; person < 4; person++) {
            DUE.is(22, "forged(" + person + ") without surveys", x.forged(person), 511);
        }
        x.survey(0, 1, 58);
        DUE.is(22, "forged(0)", x.forged(0), 1 << 4);
        DUE.is(22, "forged(1)", x.forged(1), 1 << 2);
        DUE.is(22, "forged(2)", x.forged(2), 511);
        x.survey(1, 2, 62);
        DUE.is(22, "forged(2)", x.forged(2), 1 << 3 | 1 << 4 | 1 << 5 | 1 << 6 | 1 << 7 | 1 << 8);
        DUE.is(22, "forged(3)", x.forged(3), 1 << 0 | 1 << 1 | 1 << 2 | 1 << 3);
        DUE.is(22, "forged(0)", x.forged(0), 1 << 4);
        x.survey(0, 3, 0);
        x.survey(3, 0, 0);
        DUE.is(22, "forged(0), two that cannot be asked", x.forged(0), 1 << 4);
        x.survey(2, 0, 31);
        DUE.is(22, "forged(0), one that never comes out", x.forged(0), 0);
        DUE.is(22, "forged(3), one that never comes out", x.forged(3), 0);
        DUE.is(22, "person(0, 2): as it was", x.person(0, 2), 5);
        DUE.is(22, "person(3, 2): as it was", x.person(3, 2), 2);
        DUE.is(22, "width(0, 1): as it was", x.width(0, 1), 58);
        DUE.is(22, "forged(4)", x.forged(4), MarriedMap.BAD);
        for (int far : FAR) {
            DUE.is(22, "forged(" + far + ")", x.forged(far), MarriedMap.BAD);
        }
        MarriedMap low = Due.duchy("50;40", "m012;w190");
        low.wed(0, 0, 1, 12);
        low.survey(0, 1, 49);
        DUE.is(22, "forged(0) of a greater height", low.forged(0), 1 << 5);
        DUE.is(22, "forged(1) of a lesser height", low.forged(1), 1 << 3);
    }

    private static void unlike() {
        MarriedMap x = duchy();
        DUE.is(23, "unlike()", x.unlike(), 0);
        x.survey(0, 1, 58);
        x.survey(0, 0, 50);
        x.survey(2, 2, 0);
        DUE.is(23, "unlike()", x.unlike(), 0);
        x.survey(0, 0, 51);
        DUE.is(23, "unlike()", x.unlike(), 1);
        x.survey(1, 3, 62);
        DUE.is(23, "unlike(), one behind too many events", x.unlike(), 2);
        x.survey(3, 0, 0);
        DUE.is(23, "unlike(), one of no land", x.unlike(), 3);
        x.survey(3, 3, 0);
        DUE.is(23, "unlike(), one of both", x.unlike(), 4);
        x.ends(3, 0, 1);
        DUE.is(23, "unlike(), with an event more", x.unlike(), 3);
        x.wipe(0);
        DUE.is(23, "unlike(), without lands", x.unlike(), 7);
    }

    private static void without() {
        MarriedMap x = duchy();
        int[][] want = {{50, 70, 0}, {58, 32, 30}};
        for (int event = 0; event < 2; event++) {
            for (int land = 0; land < 3; land++) {
                DUE.is(24, "without(" + event + ", " + land + ")", x.without(event, land), want[event][land]);
            }
        }
        DUE.is(24, "width(0, 2): as it was", x.width(0, 2), 58);
        DUE.is(24, "without(2, 0)", x.without(2, 0), MarriedMap.BAD);
        DUE.is(24, "without(0, 3)", x.without(0, 3), MarriedMap.BAD);
        for (int far : FAR) {
            DUE.is(24, "without(" + far + ", 0)", x.without(far, 0), MarriedMap.BAD);
            DUE.is(24, "without(0, " + far + ")", x.without(0, far), MarriedMap.BAD);
        }
        x.wed(3, 2, 1, 12);
        x.ends(3, 0, 0);
        DUE.is(24, "without(0, 0), a parting that the law doesn't let be then", x.without(0, 0), 50);
        MarriedMap y = Due.duchy("50;40;30", "m052;w130;m299");
        y.wed(0, 0, 1, 12);
        y.wed(0, 2, 1, 12);
        DUE.is(24, "without(0, 2), a wedding that the law lets be then", y.without(0, 2), 45);
        DUE.is(24, "without(0, 1)", y.without(0, 1), 25);
    }

    private static void blamed() {
        MarriedMap x = duchy();
        DUE.is(25, "blame(0)", x.blame(0), MarriedMap.NONE);
        DUE.is(25, "blame(1)", x.blame(1), 0);
        DUE.is(25, "blame(2)", x.blame(2), 1);
        DUE.is(25, "blame(3)", x.blame(3), MarriedMap.BAD);
        for (int far : FAR) {
            DUE.is(25, "blame(" + far + ")", x.blame(far), MarriedMap.BAD);
        }
        DUE.is(25, "blame(0) without events", Due.duchy("50", "").blame(0), MarriedMap.NONE);
        MarriedMap like = Due.duchy("50;40", "m020;w110;m020;w110;m040;w110;m040;w110");
        like.wed(0, 0, 1, 12);
        like.wed(0, 4, 5, 12);
        like.wed(0, 6, 7, 12);
        DUE.is(25, "blame(1), of like ones the least", like.blame(1), 1);
        DUE.is(25, "blame(0)", like.blame(0), MarriedMap.NONE);
        like.ends(0, 0, 4);
        DUE.is(25, "blame(0), a parting", like.blame(0), 3);
    }
}
