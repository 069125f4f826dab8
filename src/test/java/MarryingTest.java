import java.util.Random;

/** Promises 17 to 19. */
public final class MarryingTest {
    private static final Due DUE = new Due("MarryingTest");
    private static final int[] FAR = {Integer.MIN_VALUE, -1000, -1, 1000, Integer.MAX_VALUE};

    public static void main(String[] args) {
        oneNeighbour();
        twoNeighbours();
        onlyOnesOwn();
        choices();
        onlyTheFree();
        cloudsOrNot();
        sixWeddings();
        wrongNumbers();
        leaving();
        drawn();
        DUE.end();
    }

    private static void grown(MarriedMap x, int land, int... widths) {
        for (int k = 0; k < widths.length; k++) {
            DUE.is(18, "grows(" + land + ", " + k + ")", x.grows(land, k), widths[k]);
        }
    }

    /** The least number of weddings for a width, and one more for what is wider than that. */
    private static void reached(MarriedMap x, int land, int... widths) {
        for (int k = 0; k < widths.length; k++) {
            DUE.is(17, "reach(" + land + ", " + widths[k] + ")", x.reach(land, widths[k]), k);
            int next = k + 1 < widths.length ? k + 1 : MarriedMap.NONE;
            DUE.is(17, "reach(" + land + ", " + (widths[k] + 1) + ")", x.reach(land, widths[k] + 1), next);
        }
    }

    private static void oneNeighbour() {
        MarriedMap x = Due.duchy("30;30", "m010;m020;m130;w140;w010;w110");
        grown(x, 0, 30, 37, 37, 37, 37);
        grown(x, 1, 30, 51, 60, 60, 60);
        reached(x, 0, 30, 37);
        reached(x, 1, 30, 51, 60);
        DUE.is(17, "reach(0, 0)", x.reach(0, 0), 0);
        DUE.is(17, "reach(0, 999)", x.reach(0, 999), MarriedMap.NONE);
        DUE.is(33, "count(4): no event more", x.count(4), 0);
        DUE.is(14, "width(0, 0): as it was", x.width(0, 0), 30);
    }

    private static void twoNeighbours() {
        MarriedMap x = Due.duchy("20;10;40", "w010;m150;w230;m144");
        grown(x, 1, 10, 45, 65, 65, 65);
        reached(x, 1, 10, 45, 65);
        grown(x, 0, 20, 20, 20);
        grown(x, 2, 40, 40, 40);
    }

    /** That others marry so that a neighbour has more to give doesn't count. */
    private static void onlyOnesOwn() {
        MarriedMap x = Due.duchy("10;05;50", "m099;w110;m199;w210");
        grown(x, 0, 10, 15, 15, 15, 15);
        DUE.is(17, "reach(0, 16)", x.reach(0, 16), MarriedMap.NONE);
        MarriedMap losing = Due.duchy("05;10", "m010;w199;w099;m110");
        grown(losing, 0, 5, 15, 15);
    }

    private static void choices() {
        MarriedMap greedy = Due.duchy("99;00;99", "w010;w020;m190;m130");
        grown(greedy, 1, 0, 56, 63, 63);
        MarriedMap sides = Due.duchy("10;00;99", "w010;w220;m190;m140");
        grown(sides, 1, 0, 49, 59, 59);
        reached(sides, 1, 0, 49, 59);
        MarriedMap hats = Due.duchy("99;99", "m019;w120");
        grown(hats, 0, 99, 155);
        grown(hats, 1, 99, 99);
    }

    private static void onlyTheFree() {
        MarriedMap x = Due.duchy("50;50", "m050;w110;m040;w120");
        grown(x, 0, 50, 78, 92);
        x.ends(0, 1, 1);
        grown(x, 0, 50, 71, 71);
        x.width(0, 0);
        DUE.is(17, "reach(0, 72)", x.reach(0, 72), MarriedMap.NONE);
        x.width(0, 0);
        DUE.is(18, "grows(0, 2)", x.grows(0, 2), 71);
        x.wed(0, 2, 3, 12);
        grown(x, 0, 52, 52, 52);
        x.ends(0, 0, 2);
        grown(x, 0, 50, 71, 71);
        DUE.is(17, "reach(0, 71)", x.reach(0, 71), 1);
    }

    private static void cloudsOrNot() {
        MarriedMap x = Due.duchy("50;50", "m050;w110");
        for (int week = 0; week < 52; week++) {
            x.cloud(week, 1);
        }
        grown(x, 0, 50, 78);
        DUE.is(17, "reach(0, 78)", x.reach(0, 78), 1);
    }

    private static void sixWeddings() {
        MarriedMap x = Due.duchy("10;99",
                "m020;m020;m020;m020;m020;m020;w110;w110;w110;w110;w110;w110");
        grown(x, 0, 10, 17, 24, 31, 38);
        reached(x, 0, 10, 17, 24, 31, 38, 45, 52);
    }

    private static void wrongNumbers() {
        MarriedMap x = Due.duchy("30;30", "m010;w120");
        DUE.is(17, "reach(2, 0)", x.reach(2, 0), MarriedMap.BAD);
        DUE.is(17, "reach(0, 1000)", x.reach(0, 1000), MarriedMap.BAD);
        DUE.is(18, "grows(2, 0)", x.grows(2, 0), MarriedMap.BAD);
        DUE.is(18, "grows(0, 5)", x.grows(0, 5), MarriedMap.BAD);
        for (int far : FAR) {
            DUE.is(17, "reach(" + far + ", 0)", x.reach(far, 0), MarriedMap.BAD);
            DUE.is(17, "reach(0, " + far + ")", x.reach(0, far), MarriedMap.BAD);
            DUE.is(18, "grows(" + far + ", 0)", x.grows(far, 0), MarriedMap.BAD);
            DUE.is(18, "grows(0, " + far + ")", x.grows(0, far), MarriedMap.BAD);
        }
    }

    /** Four of a land with three of each neighbour, against every row of weddings. */
    private static void drawn() {
        for (int run = 0; run < 150; run++) {
            Random random = new Random(run);
            String lands = Draw.landsOf(random, 3, run % 2 == 0 ? 40 : 100);
            String people = Draw.peopleOf(random, "0001111222");
            MarriedMap x = Due.duchy(lands, people);
            Model model = new Model();
            model.tell(lands, people);
            for (int k = 0; k <= 4; k++) {
                String call = "grows(1, " + k + ") of " + lands + " " + people;
                DUE.is(18, call, x.grows(1, k), model.grows(1, k));
                DUE.is(17, "reach(1, that), " + call, x.reach(1, x.grows(1, k)), model.reach(1, x.grows(1, k)));
            }
            DUE.is(17, "reach(1, one more than can be)", x.reach(1, x.grows(1, 4) + 1), MarriedMap.NONE);
        }
    }

    private static void leaving() {
        DUE.is(19, "leave()", new MarriedMap().leave(), 0);
        leaves("m010;w150;m120;w010", 0);
        leaves("m010;w150;m060;w110", 1);
        leaves("m010;w110;m060;w150", 0);
        leaves("m020;w150;m020;w110", 0);
        leaves("m010;w150;m060;w150", 0);
        leaves("m010;w150;m260;w110", 1);
        leaves("m010;w199;m069;w110", 1);
        leaves("m060;w110;m010;w150", 1);
        leaves("w150;m010;w110;m060", 1);
        MarriedMap three = Due.duchy("50;50", "m010;w190;m020;w120;m030;w110");
        three.wed(0, 0, 1, 12);
        three.wed(0, 2, 3, 12);
        three.wed(0, 5, 4, 12);
        DUE.is(19, "leave()", three.leave(), 3);
        three.width(0, 0);
        DUE.is(19, "leave() behind another call", three.leave(), 3);
        three.ends(0, 0, 5);
        DUE.is(19, "leave() behind a parting", three.leave(), 1);
        three.ends(0, 1, 3);
        DUE.is(19, "leave() behind a death", three.leave(), 0);
    }

    /** 0 weds 1, and 2 weds 3. */
    private static void leaves(String people, int pairs) {
        MarriedMap x = Due.duchy("50;50;50", people);
        x.wed(0, 0, 1, 12);
        DUE.is(19, "leave() of one couple", x.leave(), 0);
        x.wed(0, 2, 3, 12);
        DUE.is(12, "judged()", x.judged(), MarriedMap.NONE);
        DUE.is(19, "leave() of " + people, x.leave(), pairs);
    }
}
