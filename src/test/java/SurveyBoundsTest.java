/** Promises 20 to 25 at the edges that the document names. */
public final class SurveyBoundsTest {
    private static final Due DUE = new Due("SurveyBoundsTest");
    private static final Refused REFUSED = new Refused(DUE);
    private static final int NONE = MarriedMap.NONE, BAD = MarriedMap.BAD, FULL = MarriedMap.FULL;
    private static final int ALL_HEIGHTS = 511;

    public static void main(String[] args) {
        leastAndLastNumbersAreTaken();
        eightAtMost();
        surveyRefused();
        forgetting();
        heightsOneToNine();
        heightsBelowAndAbove();
        heightsWhereAllIsTaken();
        surveysThatCanBeAsked();
        allSurveysComeOut();
        forgedLeavesHeights();
        forgedRefused();
        unlikeByOneHand();
        unlikeThatCannotBeAsked();
        noneAndAllUnlike();
        withoutEachEvent();
        withoutTheOnlyEvent();
        withoutRefused();
        widerThanItIs();
        ofLikeOnesTheLeast();
        theFirstAndTheLastBlamed();
        nothingToBlame();
        blameRefused();
        questionsLeaveAll();
        DUE.end();
    }

    /** A wedding in week 0 that moves the height less 5 to land 0 (below 0: to land 1). */
    private static MarriedMap wedWithHeight(int height) {
        MarriedMap x = Due.duchy("50;40", "m0" + height + "0;w150");
        x.wed(0, 0, 1, 12);
        return x;
    }

    /** "a LAND (0 to 5) behind k EVENTS", "k 0 to 24", "(0 to 999)": whether they can be asked or not. */
    private static void leastAndLastNumbersAreTaken() {
        for (int land : new int[] {0, 5}) {
            for (int k : new int[] {0, 24}) {
                for (int width : new int[] {0, 999}) {
                    String call = "survey(" + land + ", " + k + ", " + width + ")";
                    MarriedMap x = new MarriedMap();
                    DUE.is(20, call, x.survey(land, k, width), 1);
                    DUE.is(33, "count(7)", x.count(7), 1);
                    DUE.is(20, call, Situation.SOME.made().survey(land, k, width), 3);
                }
            }
        }
    }

    /** "SURVEYS, 8 at most". */
    private static void eightAtMost() {
        MarriedMap x = Due.duchy("50", "");
        for (int time = 0; time < 2; time++) {
            for (int i = 1; i <= 8; i++) {
                DUE.is(20, "survey(0, 0, 51), the " + i + "th", x.survey(0, 0, 51), i);
                DUE.is(23, "unlike()", x.unlike(), i);
            }
            DUE.is(20, "survey(0, 0, 51), one too many", x.survey(0, 0, 51), FULL);
            DUE.is(20, "survey(0, 0, 51), two too many", x.survey(0, 0, 51), FULL);
            DUE.is(23, "unlike()", x.unlike(), 8);
            DUE.is(33, "count(7)", x.count(7), 8);
            DUE.is(21, "forget()", x.forget(), 8);
        }
    }

    private static void surveyRefused() {
        for (int edge = 0; edge < 2; edge++) {
            REFUSED.outsideEver("survey", 0, 0, 5, 5 * edge, 0, 0);
            REFUSED.outsideEver("survey", 1, 0, 24, 0, 24 * edge, 0);
            REFUSED.outsideEver("survey", 2, 0, 999, 0, 0, 999 * edge);
        }
        REFUSED.full(Situation.FULL, "survey", 0, 0, 0);
        REFUSED.full(Situation.FULL, "survey", 5, 24, 999);
    }

    /** "SURVEYS are forgotten: how many", of none, of each number of them, and of none again. */
    private static void forgetting() {
        for (int number = 0; number <= 8; number++) {
            MarriedMap x = wedWithHeight(7);
            for (int i = 0; i < number; i++) {
                x.survey(0, 0, 0);
            }
            DUE.is(22, "forged(0)", x.forged(0), number == 0 ? ALL_HEIGHTS : 0);
            DUE.is(21, "forget() of " + number, x.forget(), number);
            DUE.is(33, "count(7)", x.count(7), 0);
            DUE.is(22, "forged(0) without surveys", x.forged(0), ALL_HEIGHTS);
            DUE.is(23, "unlike() without surveys", x.unlike(), 0);
            DUE.is(21, "forget() again", x.forget(), 0);
            DUE.is(33, "count(4): events stay", x.count(4), 1);
        }
    }

    /** "the HEIGHTS (1 to 9) .. as bits (HEIGHT 1: bit 0)": each of them, whatever is told. */
    private static void heightsOneToNine() {
        for (int told : new int[] {1, 5, 9}) {
            for (int height = 1; height <= 9; height++) {
                MarriedMap x = wedWithHeight(told);
                x.survey(0, 1, 50 + height - 5);
                DUE.is(22, "forged(0) of " + height + ", told " + told, x.forged(0), 1 << (height - 1));
                int other = told - (height - 5);
                DUE.is(22, "forged(1)", x.forged(1), other >= 1 && other <= 9 ? 1 << (other - 1) : 0);
            }
        }
    }

    /** No height of 0 or of 10 counts. */
    private static void heightsBelowAndAbove() {
        for (int width : new int[] {44, 45, 55, 56}) {
            MarriedMap x = wedWithHeight(5);
            x.survey(0, 1, width);
            DUE.is(22, "forged(0), measured " + width, x.forged(0), 0);
        }
    }

    private static void heightsWhereAllIsTaken() {
        for (int width = 0; width <= 9; width++) {
            MarriedMap x = Due.duchy("50;0" + width, "m050;w110");
            x.wed(0, 0, 1, 12);
            x.survey(1, 1, 0);
            int due = 0;
            for (int height = 1; height <= 9; height++) {
                due |= height - 1 >= width ? 1 << (height - 1) : 0;
            }
            DUE.is(22, "forged(0), all of " + width + " is taken", x.forged(0), due);
        }
        MarriedMap clouded = wedWithHeight(7);
        clouded.cloud(0, 1);
        clouded.survey(0, 1, 50);
        DUE.is(22, "forged(0) under clouds", clouded.forged(0), ALL_HEIGHTS);
        clouded.survey(0, 1, 51);
        DUE.is(22, "forged(0) under clouds, measured otherwise", clouded.forged(0), 0);
    }

    /** "that can be asked (a LAND that there is, as many EVENTS as there are or fewer)". */
    private static void surveysThatCanBeAsked() {
        for (int events = 0; events <= 24; events++) {
            MarriedMap x = Due.duchy("50;40", "m052;w130");
            for (int i = 0; i < events; i++) {
                x.ends(0, 0, 0);
            }
            for (int k = Math.max(0, events - 1); k <= Math.min(24, events + 1); k++) {
                boolean isAsked = k <= events;
                x.survey(1, k, 0);
                String told = " behind " + k + " of " + events + " events";
                DUE.is(22, "forged(0), a survey" + told, x.forged(0), isAsked ? 0 : ALL_HEIGHTS);
                DUE.is(23, "unlike(), a survey" + told, x.unlike(), 1);
                x.forget();
                x.survey(1, k, 40);
                DUE.is(22, "forged(0), a right survey" + told, x.forged(0), ALL_HEIGHTS);
                DUE.is(23, "unlike(), a right survey" + told, x.unlike(), isAsked ? 0 : 1);
                x.forget();
            }
        }
        for (int lands = 1; lands <= 6; lands++) {
            MarriedMap x = Due.duchy("40;40;40;40;40;40".substring(0, 3 * lands - 1), "m052");
            for (int land = 0; land < 6; land++) {
                x.survey(land, 0, 41);
                String told = " of land " + land + " of " + lands;
                DUE.is(22, "forged(0), a survey" + told, x.forged(0), land < lands ? 0 : ALL_HEIGHTS);
                x.forget();
                x.survey(land, 0, 40);
                DUE.is(22, "forged(0), a right survey" + told, x.forged(0), ALL_HEIGHTS);
                DUE.is(23, "unlike(), a right survey" + told, x.unlike(), land < lands ? 0 : 1);
                x.forget();
            }
        }
    }

    /** "by which all SURVEYS .. come out so": one of eight that doesn't, the first or the last or between, is enough. */
    private static void allSurveysComeOut() {
        for (int wrong = -1; wrong < 8; wrong++) {
            MarriedMap x = wedWithHeight(7);
            for (int i = 0; i < 8; i++) {
                x.survey(0, i % 2, (i % 2 == 0 ? 50 : 52) + (i == wrong ? 1 : 0));
            }
            boolean isHeight = wrong < 0;
            DUE.is(22, "forged(0), survey " + wrong + " is wrong", x.forged(0), isHeight ? 1 << 6 : 0);
            DUE.is(23, "unlike(), survey " + wrong + " is wrong", x.unlike(), isHeight ? 0 : 1);
        }
    }

    private static void forgedLeavesHeights() {
        MarriedMap x = Due.duchy("50;40", "m012;w191");
        x.wed(0, 0, 1, 12);
        x.survey(0, 1, 43);
        DUE.is(22, "forged(0)", x.forged(0), 1);
        DUE.is(22, "person(0, 2): as it was", x.person(0, 2), 1);
        DUE.is(22, "forged(1)", x.forged(1), 1 << 8);
        DUE.is(22, "person(1, 2): as it was", x.person(1, 2), 9);
        DUE.is(22, "width(0, 1): as it was", x.width(0, 1), 43);
        DUE.is(22, "shadow(0, 12): as it was", x.shadow(0, 12), 3);
    }

    private static void forgedRefused() {
        REFUSED.bad(Situation.NOTHING, "forged", 0);
        REFUSED.bad(Situation.FULL_TEXTS, "forged", 0);
        REFUSED.outside(Situation.SOME, "forged", 0, 0, 5, 5);
        REFUSED.outside(Situation.FULL, "forged", 0, 0, 11, 11);
    }

    /** "how many SURVEYS come out otherwise". */
    private static void unlikeByOneHand() {
        for (int more = -1; more <= 1; more++) {
            MarriedMap x = wedWithHeight(7);
            x.survey(0, 1, 52 + more);
            DUE.is(23, "unlike(), " + more + " hands more", x.unlike(), more == 0 ? 0 : 1);
            x.survey(1, 0, 40 + more);
            DUE.is(23, "unlike(), twice " + more + " hands more", x.unlike(), more == 0 ? 0 : 2);
        }
    }

    /** "(those that cannot be asked, too)": also where the width is that of nothing. */
    private static void unlikeThatCannotBeAsked() {
        MarriedMap x = new MarriedMap();
        x.survey(0, 0, 0);
        DUE.is(23, "unlike() without lands", x.unlike(), 1);
        Due.type(x, 0, "00");
        DUE.is(23, "unlike() with the land", x.unlike(), 0);
        x.survey(0, 1, 0);
        DUE.is(23, "unlike(), behind an event that there is not", x.unlike(), 1);
        x.ends(0, 0, 0);
        DUE.is(23, "unlike(), behind an event that there is", x.unlike(), 0);
        x.undo();
        DUE.is(23, "unlike(), behind one that is undone", x.unlike(), 1);
        x.survey(1, 0, 0);
        DUE.is(23, "unlike(), of a land that there is not", x.unlike(), 2);
        x.survey(1, 1, 0);
        DUE.is(23, "unlike(), of neither: it counts once", x.unlike(), 3);
        x.type(0, ';');
        DUE.is(23, "unlike() with a fault of lands", x.unlike(), 4);
    }

    private static void noneAndAllUnlike() {
        MarriedMap x = Situation.FULL.made();
        x.forget();
        DUE.is(23, "unlike() of none", x.unlike(), 0);
        for (int i = 0; i < 8; i++) {
            x.survey(i % 6, 3 * i, 999);
        }
        DUE.is(23, "unlike() of all", x.unlike(), 8);
    }

    /** Six weddings of 1 to 6 hands: without each its own hands are missing. */
    private static MarriedMap sixWeddings() {
        MarriedMap x = Due.duchy("50;40", "m020;m030;m040;m050;m060;m070;w110;w110;w110;w110;w110;w110");
        for (int i = 0; i < 6; i++) {
            x.wed(i, i, 6 + i, 12);
        }
        return x;
    }

    private static void withoutEachEvent() {
        MarriedMap x = sixWeddings();
        for (int event = 0; event < 6; event++) {
            DUE.is(24, "without(" + event + ", 0)", x.without(event, 0), 71 - (event + 1));
            DUE.is(24, "without(" + event + ", 1)", x.without(event, 1), 19 + (event + 1));
        }
        DUE.is(24, "without(6, 0)", x.without(6, 0), BAD);
        DUE.is(24, "without(0, 2)", x.without(0, 2), BAD);
        for (int i = 6; i < 24; i++) {
            x.ends(51, 0, i % 6);
        }
        for (int event = 12; event < 24; event++) {
            DUE.is(24, "without(" + event + ", 0), one that does nothing", x.without(event, 0), 50);
        }
        DUE.is(24, "without(0, 0), whose parting is against the law then", x.without(0, 0), 50);
        DUE.is(24, "without(6, 0), a later parting does the same", x.without(6, 0), 50);
        DUE.is(24, "without(24, 0)", x.without(24, 0), BAD);
    }

    private static void withoutTheOnlyEvent() {
        MarriedMap x = wedWithHeight(9);
        DUE.is(24, "without(0, 0)", x.without(0, 0), 50);
        DUE.is(24, "without(0, 1)", x.without(0, 1), 40);
        DUE.is(24, "width(0, 1): as it was", x.width(0, 1), 54);
        x.undo();
        DUE.is(24, "without(0, 0) of none", x.without(0, 0), BAD);
    }

    private static void withoutRefused() {
        REFUSED.bad(Situation.NOTHING, "without", 0, 0);
        REFUSED.outside(Situation.SOME, "without", 0, 0, 2, 2, 0);
        REFUSED.outside(Situation.SOME, "without", 1, 0, 2, 0, 2);
        REFUSED.outside(Situation.FULL, "without", 0, 0, 23, 23, 0);
        REFUSED.outside(Situation.FULL, "without", 1, 0, 5, 0, 5);
    }

    /** "(wider than it is)": by one hand, not as wide, not by one less. */
    private static void widerThanItIs() {
        for (int height = 4; height <= 6; height++) {
            MarriedMap x = wedWithHeight(height);
            DUE.is(25, "blame(0), height " + height, x.blame(0), height < 5 ? 0 : NONE);
            DUE.is(25, "blame(1), height " + height, x.blame(1), height > 5 ? 0 : NONE);
        }
    }

    /** "of like ones the least", "widest". */
    private static void ofLikeOnesTheLeast() {
        int[][] heights = {{2, 2, 2}, {2, 3, 3}, {3, 2, 3}, {3, 3, 2}, {2, 3, 4}, {4, 3, 2}, {2, 4, 3}, {1, 1, 2}, {1, 1, 1}};
        int[] due = {0, 1, 0, 0, 2, 0, 1, 2, NONE};
        for (int i = 0; i < heights.length; i++) {
            int[] h = heights[i];
            MarriedMap x = Due.duchy("50;40", "m0" + h[0] + "0;m0" + h[1] + "0;m0" + h[2] + "0;w110;w110;w110");
            for (int couple = 0; couple < 3; couple++) {
                x.wed(0, couple, 3 + couple, 12);
            }
            DUE.is(25, "blame(1) of heights " + h[0] + h[1] + h[2], x.blame(1), due[i]);
            DUE.is(25, "blame(0) of heights " + h[0] + h[1] + h[2], x.blame(0), NONE);
        }
    }

    private static void theFirstAndTheLastBlamed() {
        for (int place = 0; place < 24; place++) {
            MarriedMap x = Due.duchy("50;40", "m020;w110");
            for (int i = 0; i < 24; i++) {
                if (i == place) {
                    x.wed(0, 0, 1, 12);
                } else {
                    x.wed(0, 0, 0, 12);
                }
            }
            DUE.is(25, "blame(1), the wedding is event " + place, x.blame(1), place);
            DUE.is(25, "blame(0), the wedding is event " + place, x.blame(0), NONE);
        }
    }

    private static void nothingToBlame() {
        MarriedMap x = Due.duchy("00;99", "m052;w130");
        DUE.is(25, "blame(0) without events", x.blame(0), NONE);
        x.ends(0, 1, 0);
        DUE.is(25, "blame(0) of a death of one who is free", x.blame(0), NONE);
        x.wed(0, 0, 1, 12);
        DUE.is(25, "blame(0), of the death, without which they had wed", x.blame(0), 0);
        DUE.is(25, "blame(1)", x.blame(1), NONE);
    }

    private static void blameRefused() {
        REFUSED.bad(Situation.NOTHING, "blame", 0);
        REFUSED.bad(Situation.FULL_TEXTS, "blame", 0);
        REFUSED.outside(Situation.SOME, "blame", 0, 0, 2, 2);
        REFUSED.outside(Situation.FULL, "blame", 0, 0, 5, 5);
    }

    private static void questionsLeaveAll() {
        for (Situation in : new Situation[] {Situation.SOME, Situation.FULL}) {
            for (int person = 0; person < 6; person++) {
                REFUSED.asks(in, "forged", person);
            }
            REFUSED.asks(in, "unlike");
            for (int land = 0; land < 3; land++) {
                REFUSED.asks(in, "without", 0, land);
                REFUSED.asks(in, "without", 2, land);
                REFUSED.asks(in, "blame", land);
            }
        }
    }
}
