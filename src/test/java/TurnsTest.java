import java.util.Random;

/** Promise 26. */
public final class TurnsTest {
    private static final Due DUE = new Due("TurnsTest");
    private static final int[] FAR = {Integer.MIN_VALUE, -1000, -1, 1000, Integer.MAX_VALUE};

    public static void main(String[] args) {
        nobodyMay();
        oneWedding();
        forced();
        likeOnes();
        inTurn();
        tooMany();
        behindEvents();
        wrongNumbers();
        drawn();
        DUE.end();
    }

    private static void lords(MarriedMap x, int a, int b, int end, int first) {
        DUE.is(26, "lords(" + a + ", " + b + ", 0)", x.lords(a, b, 0), end);
        DUE.is(26, "lords(" + a + ", " + b + ", 1)", x.lords(a, b, 1), first);
    }

    private static void nobodyMay() {
        MarriedMap x = Due.duchy("50;40;30", "m052;m130;w211;w022");
        lords(x, 0, 1, 10 + 14, 12 * 3 + 1);
        MarriedMap none = Due.duchy("50;40;30", "m052;m130;m211");
        lords(none, 0, 1, 10, MarriedMap.NONE);
        lords(none, 1, 0, -10, MarriedMap.NONE);
        lords(none, 2, 1, -10, MarriedMap.NONE);
    }

    private static void oneWedding() {
        MarriedMap x = Due.duchy("50;40", "m020;w110");
        lords(x, 0, 1, 24, 1);
        lords(x, 1, 0, -24, 12);
        MarriedMap all = Due.duchy("50;40", "w110;m090");
        lords(all, 0, 1, 90, 12);
        lords(all, 1, 0, -90, 1);
    }

    /** A lord weds even where each wedding is a loss. */
    private static void forced() {
        MarriedMap x = Due.duchy("50;40", "m010;w120;w130");
        lords(x, 0, 1, 10 - 14, 1);
        lords(x, 1, 0, -10 + 28, 12 * 2);
    }

    private static void likeOnes() {
        MarriedMap x = Due.duchy("50;40", "w120;m010;w120;m010");
        lords(x, 0, 1, 10 - 28, 12 * 1);
        lords(x, 1, 0, -10 + 28, 1);
        MarriedMap like = Due.duchy("50;40", "m010;w110;w110;m010");
        lords(like, 0, 1, 10, 1);
        lords(like, 1, 0, -10, 12);
    }

    private static void inTurn() {
        MarriedMap x = Due.duchy("30;30", "m010;m020;m130;w140;w010;w110");
        lords(x, 0, 1, -56, 3);
        lords(x, 1, 0, 56, 37);
        MarriedMap order = Due.duchy("07;00", "m040;m010;w110;w120");
        lords(order, 0, 1, 7, 3);
        lords(order, 1, 0, 7, 12 * 2);
    }

    private static void tooMany() {
        String four = "m011;m011;m011;m011";
        lords(Due.duchy("50;40", four), 0, 1, 10, MarriedMap.NONE);
        lords(Due.duchy("50;40", four), 1, 0, -10, MarriedMap.NONE);
        MarriedMap x = Due.duchy("50;40;30", four + ";m011");
        lords(x, 0, 1, -10004, -10004);
        lords(x, 1, 0, -10004, -10004);
        lords(x, 1, 2, 10, MarriedMap.NONE);
        DUE.is(26, "lords(0, 2, 0)", x.lords(0, 2, 0), -10002);
        DUE.is(26, "lords(0, 1, 2)", x.lords(0, 1, 2), -10002);
        x.ends(0, 1, 2);
        lords(x, 0, 1, 10, MarriedMap.NONE);
        MarriedMap wed = Due.duchy("50;40", four + ";m011;w111");
        lords(wed, 0, 1, -10004, -10004);
        wed.wed(0, 0, 5, 12);
        lords(wed, 0, 1, 10, MarriedMap.NONE);
    }

    private static void behindEvents() {
        MarriedMap x = Due.duchy("50;40;30", "m020;w110;w220;m140");
        x.cloud(0, 1);
        lords(x, 0, 1, 24, 1);
        x.wed(0, 3, 2, 12);
        lords(x, 0, 1, 24, 1);
        lords(x, 1, 2, 10, MarriedMap.NONE);
        x.ends(1, 0, 2);
        lords(x, 1, 2, 10 + 28, 12 * 3 + 2);
        x.ends(1, 1, 1);
        lords(x, 0, 1, 10, MarriedMap.NONE);
        DUE.is(33, "count(4): no event more", x.count(4), 3);
    }

    /** Four against four, so that each lord has a choice in the second turn, too. */
    private static void drawn() {
        for (int run = 0; run < 300; run++) {
            Random random = new Random(run);
            String lands = Draw.landsOf(random, 2, run % 2 == 0 ? 40 : 100);
            String people = Draw.peopleOf(random, "00001111");
            if (run % 3 == 0) {
                people = people.replace("m0", "w0").replace("w1", "m1");
            }
            MarriedMap x = Due.duchy(lands, people);
            Model model = new Model();
            model.tell(lands, people);
            for (int first = 0; first < 2; first++) {
                int other = 1 - first;
                DUE.is(26, "lords(" + first + ", " + other + ", 0) of " + lands + " " + people,
                        x.lords(first, other, 0), model.lords(first, other, 0));
                DUE.is(26, "lords(" + first + ", " + other + ", 1) of " + lands + " " + people,
                        x.lords(first, other, 1), model.lords(first, other, 1));
            }
        }
    }

    private static void wrongNumbers() {
        MarriedMap x = Due.duchy("50;40;30", "m020;w110");
        for (int[] w : new int[][] {{0, 0, 0}, {0, 2, 0}, {2, 0, 0}, {3, 2, 0}, {2, 3, 0}, {0, -1, 0}, {-1, 0, 0},
            {0, 1, 2}, {0, 1, -1}}) {
            DUE.is(26, "lords(" + w[0] + ", " + w[1] + ", " + w[2] + ")", x.lords(w[0], w[1], w[2]), -10002);
        }
        for (int far : FAR) {
            DUE.is(26, "lords(" + far + ", 0, 0)", x.lords(far, 0, 0), -10002);
            DUE.is(26, "lords(0, " + far + ", 0)", x.lords(0, far, 0), -10002);
            DUE.is(26, "lords(0, 1, " + far + ")", x.lords(0, 1, far), -10002);
        }
    }
}
