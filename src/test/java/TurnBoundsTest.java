/** Promise 26 at the edges that the document names. */
public final class TurnBoundsTest {
    private static final Due DUE = new Due("TurnBoundsTest");
    private static final Refused REFUSED = new Refused(DUE);
    private static final int NONE = MarriedMap.NONE, BAD = -10002, FULL = -10004;

    public static void main(String[] args) {
        landsNextToOneAnother();
        fourOfALand();
        onlyTheFreeAreCounted();
        noTwoWhoMay();
        theDifferenceOrAll();
        numbersThatLookLikeRefusals();
        theFirstAndTheTwelfth();
        ofLikeOnesTheLeast();
        asLongAsThereAreTwo();
        theFirstIsFirst();
        behindAllEvents();
        refused();
        DUE.end();
    }

    private static void lords(String told, MarriedMap x, int a, int b, int end, int first) {
        DUE.is(26, "lords(" + a + ", " + b + ", 0) " + told, x.lords(a, b, 0), end);
        DUE.is(26, "lords(" + a + ", " + b + ", 1) " + told, x.lords(a, b, 1), first);
    }

    /** "BAD: -10002: also LANDS that are not next to one another": any two of any number of lands. */
    private static void landsNextToOneAnother() {
        for (int number = 0; number <= 6; number++) {
            MarriedMap x = Due.duchy("10;20;40;70;11;16".substring(0, Math.max(0, 3 * number - 1)), "");
            int[] widths = {10, 20, 40, 70, 11, 16};
            for (int a = -1; a <= 6; a++) {
                for (int b = -1; b <= 6; b++) {
                    boolean are = a >= 0 && b >= 0 && a < number && b < number && Math.abs(a - b) == 1;
                    lords("of " + number + " lands", x, a, b, are ? widths[a] - widths[b] : BAD, are ? NONE : BAD);
                }
            }
        }
    }

    /** "With more than 4 in one of both LANDS who are alive and not wed: FULL": 4 are not, 5 are. */
    private static void fourOfALand() {
        for (int a = 0; a <= 6; a++) {
            for (int b = 0; b <= 6; b++) {
                String people = (";m011".repeat(a) + ";m111".repeat(b) + " ").substring(a + b == 0 ? 0 : 1).trim();
                MarriedMap x = Due.duchy("50;40;30", people);
                boolean isFull = a > 4 || b > 4;
                String told = "with " + a + " and " + b;
                DUE.is(4, "count(1) " + told, x.count(1), a + b);
                lords(told, x, 0, 1, isFull ? FULL : 10, isFull ? FULL : NONE);
                lords(told, x, 1, 0, isFull ? FULL : -10, isFull ? FULL : NONE);
                lords(told, x, 1, 2, b > 4 ? FULL : 10, b > 4 ? FULL : NONE);
            }
        }
        MarriedMap both = Due.duchy("50;40", "m011;w011;m011;w011;w011");
        lords("with five of both kinds", both, 0, 1, FULL, FULL);
    }

    private static void onlyTheFreeAreCounted() {
        for (int land = 0; land < 2; land++) {
            String four = ("m" + land + "11;").repeat(4);
            for (int who = 0; who < 5; who++) {
                MarriedMap dead = Due.duchy("50;40", four + "m" + land + "11");
                lords("of five", dead, 0, 1, FULL, FULL);
                dead.ends(0, 1, who);
                lords("of five, " + who + " is dead", dead, 0, 1, 10, NONE);
                MarriedMap wed = Due.duchy("50;40", four + "m" + land + "11;w" + (1 - land) + "11");
                lords("of five", wed, 0, 1, FULL, FULL);
                wed.wed(0, who, 5, 12);
                lords("of five, " + who + " is wed", wed, 0, 1, 10, NONE);
                wed.ends(0, 0, who);
                lords("of five, " + who + " has parted", wed, 0, 1, FULL, FULL);
            }
        }
    }

    /** "the first wedding ..; NONE". */
    private static void noTwoWhoMay() {
        for (String people : new String[] {"", "m099", "w110", "m099;m110", "w099;w110", "m099;w010", "m099;w210",
            "m099;w010;m210;w299"}) {
            MarriedMap x = Due.duchy("50;40;30", people);
            lords("of " + people, x, 0, 1, 10, NONE);
            lords("of " + people, x, 1, 0, -10, NONE);
        }
    }

    private static void theDifferenceOrAll() {
        for (int width = 0; width <= 9; width++) {
            MarriedMap x = Due.duchy("20;0" + width, "m020;w110");
            int moved = Math.min(7, width);
            lords("where 7 are taken from " + width, x, 0, 1, 20 - width + 2 * moved, 1);
            lords("where 7 are taken from " + width, x, 1, 0, width - 20 - 2 * moved, 12);
        }
        MarriedMap most = Due.duchy("99;99", "m099;w110");
        lords("of the greatest difference", most, 0, 1, 198, 1);
        lords("of the greatest difference", most, 1, 0, -198, 12);
    }

    /** "as any number": -1 to -4 and -11 to -15 are differences, too. */
    private static void numbersThatLookLikeRefusals() {
        for (int less = 0; less <= 16; less++) {
            MarriedMap x = Due.duchy("50;" + (50 + less), "");
            lords("of " + less + " less", x, 0, 1, -less, NONE);
            lords("of " + less + " more", x, 1, 0, less, NONE);
        }
    }

    /** "12 times the one of the first LAND, and the other one": the least and the greatest numbers. */
    private static void theFirstAndTheTwelfth() {
        String others = ";w210;w210;w310;w310;w410;w410;w410;w510;w510;w510;";
        MarriedMap x = Due.duchy("50;40;30;30;30;30", "m020" + others + "w110");
        lords("of 0 and 11", x, 0, 1, 24, 11);
        lords("of 11 and 0", x, 1, 0, -24, 132);
    }

    /** "of like ones the least": by the one of the first land, then by the other one. */
    private static void ofLikeOnesTheLeast() {
        MarriedMap like = Due.duchy("50;40", "m110;m011;w010;w111;m010;w110;w011;m111");
        lords("where all marry in the end", like, 0, 1, 10, 12 * 1 + 3);
        lords("where all marry in the end", like, 1, 0, -10, 2);
        MarriedMap all = Due.duchy("50;40", "w110;m010;m010;w110;m010;w110");
        lords("of pairs that move nothing", all, 0, 1, 10, 12);
        lords("of pairs that move nothing", all, 1, 0, -10, 1);
        MarriedMap taken = Due.duchy("50;00", "m050;m060;m070;w110;w120;w130");
        lords("where nothing is to be had", taken, 0, 1, 50, 3);
        lords("where nothing is to be had", taken, 1, 0, -50, 12 * 3);
    }

    /** "as long as there are two who may": from one wedding to four, each of which moves 7. */
    private static void asLongAsThereAreTwo() {
        for (int men = 0; men <= 4; men++) {
            for (int women = 0; women <= 4; women++) {
                String people = (";m020".repeat(men) + ";w110".repeat(women) + " ").substring(men + women == 0 ? 0 : 1).trim();
                MarriedMap x = Due.duchy("50;99", people);
                int weddings = Math.min(men, women);
                int end = 50 - 99 + 14 * weddings;
                lords("of " + men + " and " + women, x, 0, 1, end, weddings == 0 ? NONE : men);
                lords("of " + men + " and " + women, x, 1, 0, -end, weddings == 0 ? NONE : 12 * men);
            }
        }
    }

    /** "the first of them first": who chooses when there is one wedding for the two of them, and when there are two. */
    private static void theFirstIsFirst() {
        MarriedMap one = Due.duchy("50;50", "m030;w110;w150");
        lords("of one man", one, 0, 1, 28, 1);
        lords("of one man", one, 1, 0, 28, 24);
        MarriedMap two = Due.duchy("50;50", "m030;m040;w110;w150;w160");
        lords("of two men", two, 0, 1, 14 * (2 - 2), 2);
        lords("of two men", two, 1, 0, 14 * (3 - 3), 12 * 4);
    }

    private static void behindAllEvents() {
        MarriedMap x = Due.duchy("50;60", "m052;w130");
        for (int i = 0; i < 12; i++) {
            x.wed(0, 0, 1, 12);
            x.ends(0, 0, 0);
        }
        x.cloud(0, 1);
        x.cloud(51, 1);
        lords("behind 24, clouded", x, 0, 1, 46, 1);
        x.cloud(0, 0);
        lords("behind 24", x, 0, 1, 50 - 12 + 24, 1);
        x.undo();
        lords("behind 23", x, 0, 1, 54 - 12, NONE);
        DUE.is(33, "count(4)", x.count(4), 23);
    }

    /** "BAD ..; FULL", in this order, and what is asked leaves all as it was. */
    private static void refused() {
        REFUSED.bad(Situation.NOTHING, "lords", 0, 1, 0);
        REFUSED.bad(Situation.FULL_TEXTS, "lords", 0, 1, 0);
        REFUSED.outside(Situation.SOME, "lords", 0, 0, 2, 2, 1, 0);
        REFUSED.outside(Situation.SOME, "lords", 1, 0, 2, 1, 2, 0);
        REFUSED.outside(Situation.FULL, "lords", 0, 0, 5, 5, 4, 0);
        REFUSED.outside(Situation.FULL, "lords", 1, 0, 5, 4, 5, 0);
        for (int what = 0; what < 2; what++) {
            REFUSED.outside(Situation.SOME, "lords", 2, 0, 1, 0, 1, what);
            REFUSED.outside(Situation.FULL, "lords", 2, 0, 1, 1, 0, what);
            REFUSED.bad(Situation.SOME, "lords", 0, 2, what);
            REFUSED.bad(Situation.SOME, "lords", 1, 1, what);
            REFUSED.asks(Situation.SOME, "lords", 0, 1, what);
            REFUSED.asks(Situation.FULL, "lords", 5, 4, what);
        }
        MarriedMap five = Due.duchy("50;40;30", "m011;m011;m011;m011;m011");
        DUE.is(26, "lords(0, 1, 2) of five", five.lords(0, 1, 2), BAD);
        DUE.is(26, "lords(0, 1, -1) of five", five.lords(0, 1, -1), BAD);
        DUE.is(26, "lords(0, 2, 0) of five", five.lords(0, 2, 0), BAD);
        DUE.is(26, "lords(0, 0, 0) of five", five.lords(0, 0, 0), BAD);
        DUE.is(26, "lords(0, -1, 0) of five", five.lords(0, -1, 0), BAD);
        DUE.is(26, "lords(0, 1, 0) of five", five.lords(0, 1, 0), FULL);
    }
}
