/** Promises 17 to 19 at the edges that the document names. */
public final class MarryingBoundsTest {
    private static final Due DUE = new Due("MarryingBoundsTest");
    private static final Refused REFUSED = new Refused(DUE);
    private static final int NONE = MarriedMap.NONE;

    public static void main(String[] args) {
        widthsToldFromLeastToMost();
        asWideAsToldOrWider();
        theDifferenceOrAll();
        noMoreWeddingsThanTold();
        theFewestWeddings();
        eachOfAllCouples();
        endsOfTheRow();
        oneLandAlone();
        bothNeighbours();
        losingAndLikeWeddings();
        byTheLaw();
        behindAllEvents();
        underNoClouds();
        reachRefused();
        growsRefused();
        lesserHeights();
        leaversInEachPlace();
        landsOfThoseWhoLeave();
        noneAndManyWhoLeave();
        questionsLeaveAll();
        DUE.end();
    }

    /** "as wide as told (0 to 999)". */
    private static void widthsToldFromLeastToMost() {
        for (String lands : new String[] {"00", "99", "00;99", "99;00"}) {
            MarriedMap x = Due.duchy(lands, "");
            int width = x.width(0, 0);
            DUE.is(17, "reach(0, 0) of " + lands, x.reach(0, 0), 0);
            DUE.is(17, "reach(0, width) of " + lands, x.reach(0, width), 0);
            DUE.is(17, "reach(0, width + 1) of " + lands, x.reach(0, width + 1), NONE);
            DUE.is(17, "reach(0, 998) of " + lands, x.reach(0, 998), NONE);
            DUE.is(17, "reach(0, 999) of " + lands, x.reach(0, 999), NONE);
            DUE.is(17, "reach(0, 1000) of " + lands, x.reach(0, 1000), MarriedMap.BAD);
            DUE.is(17, "reach(0, -1) of " + lands, x.reach(0, -1), MarriedMap.BAD);
        }
    }

    private static MarriedMap sixCouples(String lands) {
        return Due.duchy(lands, "m020;m020;m020;m020;m020;m020;w110;w110;w110;w110;w110;w110");
    }

    /** Each wedding brings 7: every width up to one more than can be. */
    private static void asWideAsToldOrWider() {
        MarriedMap x = sixCouples("10;99");
        for (int width = 0; width <= 60; width++) {
            int due = width <= 10 ? 0 : width > 52 ? NONE : (width - 10 + 6) / 7;
            DUE.is(17, "reach(0, " + width + ")", x.reach(0, width), due);
        }
    }

    /** A neighbour gives the difference, or all that it has, by one wedding and by two. */
    private static void theDifferenceOrAll() {
        for (int given = 0; given <= 16; given++) {
            MarriedMap x = sixCouples("10;" + given / 10 + given % 10);
            for (int k = 0; k <= 2; k++) {
                DUE.is(18, "grows(0, " + k + ") from a land of " + given, x.grows(0, k), 10 + Math.min(7 * k, given));
            }
            DUE.is(17, "reach(0, all of both) from a land of " + given, x.reach(0, 10 + given), (given + 6) / 7);
            DUE.is(17, "reach(0, one more) from a land of " + given, x.reach(0, 11 + given), NONE);
        }
    }

    /** "by k (0 to 4) such weddings at most". */
    private static void noMoreWeddingsThanTold() {
        MarriedMap x = sixCouples("10;99");
        for (int k = 0; k <= 4; k++) {
            DUE.is(18, "grows(0, " + k + ") of six couples", x.grows(0, k), 10 + 7 * k);
            DUE.is(18, "grows(1, " + k + ") of six couples", x.grows(1, k), 99);
        }
        MarriedMap two = Due.duchy("10;99", "m020;m020;w110;w110");
        int[] due = {10, 17, 24, 24, 24};
        for (int k = 0; k <= 4; k++) {
            DUE.is(18, "grows(0, " + k + ") of two couples: \"at most\"", two.grows(0, k), due[k]);
        }
    }

    /** "the fewest": one wedding of 56 or two of 28 and 28; and six where each has to be. */
    private static void theFewestWeddings() {
        MarriedMap x = Due.duchy("00;99", "m050;m050;m090;w110;w110;w110");
        int[] widths = {0, 1, 56, 57, 84, 85, 99, 100};
        int[] due = {0, 1, 1, 2, 2, 3, 3, NONE};
        for (int i = 0; i < widths.length; i++) {
            DUE.is(17, "reach(0, " + widths[i] + ")", x.reach(0, widths[i]), due[i]);
        }
        MarriedMap six = sixCouples("57;42");
        DUE.is(17, "reach(0, 98)", six.reach(0, 98), 6);
        DUE.is(17, "reach(0, 99), all that there is", six.reach(0, 99), 6);
        DUE.is(17, "reach(0, 100)", six.reach(0, 100), NONE);
    }

    /** Of 36 couples who may marry any one can be the one that brings most, the first and the last of them too. */
    private static void eachOfAllCouples() {
        for (int man = 0; man < 6; man++) {
            for (int woman = 0; woman < 6; woman++) {
                StringBuilder people = new StringBuilder();
                for (int i = 0; i < 12; i++) {
                    boolean isBest = i == man || i == 6 + woman;
                    String height = i < 6 ? isBest ? "9" : "5" : isBest ? "1" : "5";
                    people.append(i == 0 ? "" : ";").append(i < 6 ? "m0" : "w1").append(height).append("0");
                }
                MarriedMap x = Due.duchy("10;99", people.toString());
                DUE.is(18, "grows(0, 1) of " + people, x.grows(0, 1), 66);
                DUE.is(17, "reach(0, 66) of " + people, x.reach(0, 66), 1);
                DUE.is(17, "reach(0, 67) of " + people, x.reach(0, 67), NONE);
            }
        }
    }

    /** The first land has no neighbour below it, the last none above it, and they are no neighbours. */
    private static void endsOfTheRow() {
        for (int strong = 0; strong < 6; strong++) {
            for (int weak = 0; weak < 6; weak++) {
                MarriedMap x = Due.duchy("10;10;10;10;10;10", "m" + strong + "99;w" + weak + "10");
                boolean areNeighbours = strong - weak == 1 || weak - strong == 1;
                for (int land = 0; land < 6; land++) {
                    int due = areNeighbours && land == strong ? 20 : 10;
                    String told = " with a man of " + strong + " and a woman of " + weak;
                    DUE.is(18, "grows(" + land + ", 4)" + told, x.grows(land, 4), due);
                    DUE.is(17, "reach(" + land + ", 20)" + told, x.reach(land, 20), due == 20 ? 1 : NONE);
                    DUE.is(17, "reach(" + land + ", 21)" + told, x.reach(land, 21), NONE);
                }
            }
        }
    }

    private static void oneLandAlone() {
        MarriedMap x = Due.duchy("42", "m099;w010");
        for (int k = 0; k <= 4; k++) {
            DUE.is(18, "grows(0, " + k + ") of the only land", x.grows(0, k), 42);
        }
        DUE.is(17, "reach(0, 42) of the only land", x.reach(0, 42), 0);
        DUE.is(17, "reach(0, 43) of the only land", x.reach(0, 43), NONE);
        DUE.is(18, "grows(1, 0): there is no other", x.grows(1, 0), MarriedMap.BAD);
    }

    /** One of the land in the middle may marry only once, so both sides need two. */
    private static void bothNeighbours() {
        MarriedMap one = Due.duchy("20;10;40", "w010;m199;w210");
        int[] dueOfOne = {10, 50, 50, 50, 50};
        MarriedMap two = Due.duchy("20;10;40", "w010;m199;w210;m199");
        int[] dueOfTwo = {10, 50, 70, 70, 70};
        for (int k = 0; k <= 4; k++) {
            DUE.is(18, "grows(1, " + k + ") of one", one.grows(1, k), dueOfOne[k]);
            DUE.is(18, "grows(1, " + k + ") of two", two.grows(1, k), dueOfTwo[k]);
        }
        DUE.is(17, "reach(1, 50) of one", one.reach(1, 50), 1);
        DUE.is(17, "reach(1, 51) of one", one.reach(1, 51), NONE);
        DUE.is(17, "reach(1, 51) of two", two.reach(1, 51), 2);
        DUE.is(17, "reach(1, 71) of two", two.reach(1, 71), NONE);
    }

    private static void losingAndLikeWeddings() {
        MarriedMap losing = Due.duchy("30;30", "m010;w110;m010;w120");
        MarriedMap like = Due.duchy("30;30", "m052;w125;m019;w191");
        for (int k = 0; k <= 4; k++) {
            DUE.is(18, "grows(0, " + k + ") of no gain", losing.grows(0, k), 30);
            DUE.is(18, "grows(0, " + k + ") of one gain", like.grows(0, k), k == 0 ? 30 : 51);
            DUE.is(18, "grows(1, " + k + ") of one gain", like.grows(1, k), k == 0 ? 30 : 51);
        }
        DUE.is(17, "reach(0, 30) of no gain", losing.reach(0, 30), 0);
        DUE.is(17, "reach(0, 31) of no gain", losing.reach(0, 31), NONE);
        DUE.is(17, "reach(1, 31)", losing.reach(1, 31), 1);
    }

    /** Of the dead and of the wed none may marry; behind a parting and as widowed they may. */
    private static void byTheLaw() {
        MarriedMap x = Due.duchy("30;30", "m020;w110");
        DUE.is(18, "grows(0, 1)", x.grows(0, 1), 37);
        x.wed(0, 0, 1, 12);
        DUE.is(18, "grows(0, 1) of the wed", x.grows(0, 1), 31);
        DUE.is(17, "reach(0, 32) of the wed", x.reach(0, 32), NONE);
        x.ends(0, 0, 0);
        DUE.is(18, "grows(0, 1) of those who have parted", x.grows(0, 1), 37);
        x.ends(0, 1, 1);
        DUE.is(18, "grows(0, 1) with a dead one", x.grows(0, 1), 30);
        DUE.is(17, "reach(0, 31) with a dead one", x.reach(0, 31), NONE);
        MarriedMap widowed = Due.duchy("30;30", "m020;w110;w110");
        widowed.wed(0, 0, 1, 12);
        widowed.ends(0, 1, 1);
        DUE.is(18, "grows(0, 1) of one widowed", widowed.grows(0, 1), 37);
        MarriedMap men = Due.duchy("30;30", "m090;m110");
        DUE.is(18, "grows(0, 4) of two m", men.grows(0, 4), 30);
        MarriedMap women = Due.duchy("30;30", "w090;w110");
        DUE.is(18, "grows(0, 4) of two w", women.grows(0, 4), 30);
        MarriedMap once = Due.duchy("30;99", "m020;w110;w110;w110");
        DUE.is(18, "grows(0, 4) of one who may marry once", once.grows(0, 4), 37);
    }

    /** With none and with all 24, of which none is told more. */
    private static void behindAllEvents() {
        MarriedMap x = Due.duchy("50;60", "m052;w130;m020;w110");
        for (int i = 0; i < 12; i++) {
            x.wed(0, 0, 1, 12);
            x.ends(0, 0, 0);
        }
        DUE.is(18, "grows(0, 0) behind 24", x.grows(0, 0), 50);
        DUE.is(18, "grows(0, 1) behind 24", x.grows(0, 1), 62);
        DUE.is(17, "reach(0, 62) behind 24", x.reach(0, 62), 1);
        DUE.is(17, "reach(0, 63) behind 24", x.reach(0, 63), NONE);
        DUE.is(33, "count(4)", x.count(4), 24);
        x.undo();
        DUE.is(18, "grows(0, 0) behind 23", x.grows(0, 0), 54);
        DUE.is(18, "grows(0, 1) behind 23", x.grows(0, 1), 61);
    }

    private static void underNoClouds() {
        MarriedMap x = sixCouples("10;99");
        for (int week = 0; week < 52; week++) {
            x.cloud(week, 1);
        }
        DUE.is(18, "grows(0, 4), clouds in all weeks", x.grows(0, 4), 38);
        DUE.is(17, "reach(0, 52), clouds in all weeks", x.reach(0, 52), 6);
    }

    private static void reachRefused() {
        REFUSED.bad(Situation.NOTHING, "reach", 0, 0);
        REFUSED.bad(Situation.FULL_TEXTS, "reach", 0, 0);
        REFUSED.outside(Situation.SOME, "reach", 0, 0, 2, 2, 0);
        REFUSED.outside(Situation.FULL, "reach", 0, 0, 5, 5, 0);
        REFUSED.outsideEver("reach", 1, 0, 999, 0, 0);
        REFUSED.outsideEver("reach", 1, 0, 999, 0, 999);
    }

    private static void growsRefused() {
        REFUSED.bad(Situation.NOTHING, "grows", 0, 0);
        REFUSED.bad(Situation.FULL_TEXTS, "grows", 0, 0);
        REFUSED.outside(Situation.SOME, "grows", 0, 0, 2, 2, 0);
        REFUSED.outside(Situation.FULL, "grows", 0, 0, 5, 5, 0);
        REFUSED.outsideEver("grows", 1, 0, 4, 0, 0);
        REFUSED.outsideEver("grows", 1, 0, 4, 0, 4);
    }

    /** "if each has a lesser HEIGHT": any four heights, and hats that say otherwise. */
    private static void lesserHeights() {
        for (int all = 0; all < 6561; all++) {
            int man = 1 + all % 9;
            int wife = 1 + all / 9 % 9;
            int husband = 1 + all / 81 % 9;
            int woman = 1 + all / 729;
            MarriedMap x = Due.duchy("50;50", "m0" + man + "9;w1" + wife + "0;m0" + husband + "0;w1" + woman + "9");
            x.wed(0, 0, 1, 12);
            x.wed(0, 3, 2, 12);
            int due = (man < husband && woman < wife ? 1 : 0) + (husband < man && wife < woman ? 1 : 0);
            DUE.is(19, "leave() of " + man + " with " + wife + ", " + husband + " with " + woman, x.leave(), due);
        }
    }

    /** The first and the last of the people are told as others are, whether m or w. */
    private static void leaversInEachPlace() {
        String[] people = {"m010", "w150", "m060", "w110"};
        int[] wedTo = {1, 0, 3, 2};
        for (int turn = 0; turn < 4; turn++) {
            StringBuilder text = new StringBuilder();
            for (int place = 0; place < 4; place++) {
                text.append(place == 0 ? "" : ";").append(people[(place + turn) % 4]);
            }
            MarriedMap x = Due.duchy("50;50", text.toString());
            for (int place = 0; place < 4; place++) {
                int one = (place + turn) % 4;
                if (one % 2 == 0) {
                    x.wed(0, place, (wedTo[one] - turn + 4) % 4, 12);
                }
            }
            DUE.is(12, "judged() of " + text, x.judged(), NONE);
            DUE.is(19, "leave() of " + text, x.leave(), 1);
        }
    }

    /** "an m and a w of LANDS next to one another": couples of any lands, the man of one likes the woman of the other. */
    private static void landsOfThoseWhoLeave() {
        for (int man = 0; man < 6; man++) {
            for (int wife = 0; wife < 6; wife++) {
                for (int husband = 0; husband < 6; husband++) {
                    for (int woman = 0; woman < 6; woman++) {
                        MarriedMap x = Due.duchy("50;50;50;50;50;50",
                                "m" + man + "10;w" + wife + "50;m" + husband + "60;w" + woman + "10");
                        x.wed(0, 0, 1, 12);
                        x.wed(0, 2, 3, 12);
                        boolean areWed = Math.abs(man - wife) == 1 && Math.abs(husband - woman) == 1;
                        int due = areWed && Math.abs(man - woman) == 1 ? 1 : 0;
                        DUE.is(19, "leave() of lands " + man + wife + husband + woman, x.leave(), due);
                    }
                }
            }
        }
    }

    private static void noneAndManyWhoLeave() {
        DUE.is(19, "leave() of nothing", new MarriedMap().leave(), 0);
        MarriedMap x = Due.duchy("50;50", "m010;m020;m030;m040;m050;m060;w160;w150;w140;w130;w120;w110");
        int[] due = {0, 0, 1, 3, 6, 10, 15};
        DUE.is(19, "leave() of none who are wed", x.leave(), due[0]);
        for (int couple = 0; couple < 6; couple++) {
            x.wed(0, couple, 6 + couple, 12);
            DUE.is(19, "leave() of couples up to " + couple, x.leave(), due[couple + 1]);
        }
        x.ends(0, 0, 0);
        DUE.is(19, "leave() behind a parting", x.leave(), 10);
        x.ends(0, 1, 11);
        DUE.is(19, "leave() behind a death", x.leave(), 6);
        x.type(1, ';');
        DUE.is(19, "leave() of no people", x.leave(), 0);
    }

    private static void questionsLeaveAll() {
        for (Situation in : new Situation[] {Situation.SOME, Situation.FULL}) {
            for (int land = 0; land < 3; land++) {
                REFUSED.asks(in, "reach", land, 0);
                REFUSED.asks(in, "reach", land, 999);
                REFUSED.asks(in, "grows", land, 0);
                REFUSED.asks(in, "grows", land, 4);
            }
            REFUSED.asks(in, "leave");
        }
    }
}
