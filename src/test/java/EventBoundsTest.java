/** Promises 8 to 16 at the edges that the document names. */
public final class EventBoundsTest {
    private static final Due DUE = new Due("EventBoundsTest");
    private static final Refused REFUSED = new Refused(DUE);
    private static final int NONE = MarriedMap.NONE, BAD = MarriedMap.BAD, NOT = MarriedMap.NOT, FULL = MarriedMap.FULL;
    /** The kinds of telling an event: wed, ends as a parting and as a death, read. */
    private static final int KINDS = 4;
    private static final int READ = 3;
    /** A man and a woman of each of six lands: the man of land l is l, the woman 6 + l. */
    private static final String ONE_OF_EACH =
            "m011;m111;m211;m311;m411;m511;w011;w111;w211;w311;w411;w511";

    public static void main(String[] args) {
        leastAndLastNumbersAreTaken();
        weeksNeverFall();
        weeksBehindUndo();
        twentyFourAtMost();
        wedRefused();
        endsRefused();
        readRefused();
        wholeItemsAreRead();
        asLongAsEachMayBe();
        itemsHaveTheLowestBits();
        readUntilFull();
        readInAWeek();
        undoing();
        theFirstAgainstTheLaw();
        thereAndNotThere();
        landsNextToOneAnother();
        aManAndAWoman();
        aliveAndNotWed();
        endsByLaw();
        againstTheLawDoesNothing();
        takesTheDifferenceOrAll();
        likeShadows();
        hoursOfWeddings();
        cloudsOfAWeek();
        partsWithWhatItMovedOrAll();
        nobodysIsTheSum();
        widowedElevenTimes();
        deathsOfOthers();
        numbersThatLookLikeRefusals();
        behindEachNumberOfEvents();
        questionsRefused();
        questionsLeaveAll();
        DUE.end();
    }

    private static int tell(MarriedMap x, int kind, int week) {
        switch (kind) {
            case 0:
                return x.wed(week, 0, 11, 6);
            case 1:
                return x.ends(week, 0, 0);
            case 2:
                return x.ends(week, 1, 11);
            default:
                return x.read(3, week);
        }
    }

    /** With a sheet 3 by which one wedding can be read. */
    private static MarriedMap readable() {
        MarriedMap x = new MarriedMap();
        lay(x, 3, 2, 0, 11, 18);
        return x;
    }

    private static void lay(MarriedMap x, int s, int form, int... items) {
        x.sheet(s, form, items.length);
        for (int i = 0; i < items.length; i++) {
            x.lay(s, form, i, items[i]);
        }
    }

    /** WEEKS 0 to 51, two of 0 to 11, an HOUR of 6 to 18: whether there are such people or not. */
    private static void leastAndLastNumbersAreTaken() {
        for (int week : new int[] {0, 51}) {
            for (int one : new int[] {0, 11}) {
                for (int other : new int[] {0, 11}) {
                    for (int hour : new int[] {6, 18}) {
                        String call = "wed(" + week + ", " + one + ", " + other + ", " + hour + ")";
                        DUE.is(8, call, new MarriedMap().wed(week, one, other, hour), 1);
                        DUE.is(8, call, Situation.SOME.made().wed(51, one, other, hour), 4);
                    }
                }
                for (int kind = 0; kind < 2; kind++) {
                    String call = "ends(" + week + ", " + kind + ", " + one + ")";
                    DUE.is(9, call, new MarriedMap().ends(week, kind, one), 1);
                    DUE.is(9, call, Situation.SOME.made().ends(51, kind, one), 4);
                }
            }
        }
    }

    /** "in WEEKS that never fall", "BAD: also a WEEK less than the one before", of each kind behind each. */
    private static void weeksNeverFall() {
        for (int before = 0; before < KINDS; before++) {
            for (int kind = 0; kind < KINDS; kind++) {
                for (int week : new int[] {1, 7, 51}) {
                    MarriedMap x = readable();
                    String told = "kind " + kind + " behind one of kind " + before + " in week " + week;
                    DUE.is(8 + kind / 2, told + ", the first", tell(x, before, week), 1);
                    DUE.is(8 + kind / 2, told + ", a week before", tell(x, kind, week - 1), BAD);
                    DUE.is(8 + kind / 2, told + ", in week 0", tell(x, kind, 0), BAD);
                    DUE.is(8 + kind / 2, told + ", in week 52", tell(x, kind, 52), BAD);
                    DUE.is(8 + kind / 2, told + ", none more", x.count(4), 1);
                    DUE.is(8 + kind / 2, told + ", in it", tell(x, kind, week), kind == READ ? 1 : 2);
                    DUE.is(8 + kind / 2, told + ", in week 51", tell(x, kind, 51), kind == READ ? 1 : 3);
                    DUE.is(8 + kind / 2, told + ", so many", x.count(4), 3);
                }
            }
        }
    }

    private static void weeksBehindUndo() {
        MarriedMap x = readable();
        x.wed(3, 0, 1, 6);
        x.wed(9, 0, 1, 6);
        x.undo();
        DUE.is(11, "wed(2, ..) behind what is left", x.wed(2, 0, 1, 6), BAD);
        DUE.is(11, "wed(3, ..) behind what is left", x.wed(3, 0, 1, 6), 2);
        x.undo();
        x.undo();
        DUE.is(11, "ends(0, ..) behind none", x.ends(0, 0, 0), 1);
    }

    /** "EVENTS, 24 at most". */
    private static void twentyFourAtMost() {
        for (int kind = 0; kind < KINDS; kind++) {
            MarriedMap x = readable();
            for (int i = 1; i <= 24; i++) {
                DUE.is(8 + kind / 2, "event " + i + " of kind " + kind, tell(x, kind, 5), kind == READ ? 1 : i);
            }
            for (int more = 0; more < KINDS; more++) {
                int answer = more == READ ? 0 : FULL;
                DUE.is(8 + more / 2, "kind " + more + " behind 24 of kind " + kind, tell(x, more, 5), answer);
                DUE.is(8 + more / 2, "kind " + more + " in week 51 behind 24", tell(x, more, 51), answer);
                DUE.is(8 + more / 2, "kind " + more + " a week before behind 24", tell(x, more, 4), BAD);
            }
            DUE.is(8, "count(4)", x.count(4), 24);
            DUE.is(11, "undo()", x.undo(), 23);
            DUE.is(8 + kind / 2, "kind " + kind + " behind 23", tell(x, kind, 5), kind == READ ? 1 : 24);
        }
    }

    private static void wedRefused() {
        REFUSED.outside(Situation.NOTHING, "wed", 0, 0, 51, 0, 0, 1, 12);
        REFUSED.outside(Situation.NOTHING, "wed", 0, 0, 51, 51, 0, 1, 12);
        REFUSED.outside(Situation.SOME, "wed", 0, 5, 51, 5, 0, 1, 12);
        REFUSED.outside(Situation.FULL, "wed", 0, 23, 51, 23, 0, 1, 12);
        for (int person : new int[] {0, 11}) {
            REFUSED.outsideEver("wed", 1, 0, 11, 51, person, 1, 12);
            REFUSED.outsideEver("wed", 2, 0, 11, 51, 1, person, 12);
        }
        REFUSED.outsideEver("wed", 3, 6, 18, 51, 0, 1, 6);
        REFUSED.outsideEver("wed", 3, 6, 18, 51, 0, 1, 18);
        REFUSED.full(Situation.FULL, "wed", 23, 0, 1, 6);
        REFUSED.full(Situation.FULL, "wed", 51, 11, 11, 18);
    }

    private static void endsRefused() {
        REFUSED.outside(Situation.NOTHING, "ends", 0, 0, 51, 0, 0, 1);
        REFUSED.outside(Situation.NOTHING, "ends", 0, 0, 51, 51, 1, 1);
        REFUSED.outside(Situation.SOME, "ends", 0, 5, 51, 5, 0, 1);
        REFUSED.outside(Situation.FULL, "ends", 0, 23, 51, 23, 0, 1);
        for (int kind = 0; kind < 2; kind++) {
            REFUSED.outsideEver("ends", 1, 0, 1, 51, kind, 0);
            REFUSED.outsideEver("ends", 2, 0, 11, 51, kind, 0);
            REFUSED.outsideEver("ends", 2, 0, 11, 51, kind, 11);
            REFUSED.full(Situation.FULL, "ends", 23, kind, 0);
            REFUSED.full(Situation.FULL, "ends", 51, kind, 11);
        }
    }

    /** Promise 10: "BAD: likewise; NULL", in this order. */
    private static void readRefused() {
        REFUSED.outsideEver("read", 0, 0, 3, 0, 51);
        REFUSED.outsideEver("read", 0, 0, 3, 3, 51);
        for (int s : new int[] {0, 3}) {
            REFUSED.outside(Situation.NOTHING, "read", 1, 0, 51, s, 0);
            REFUSED.outside(Situation.SOME, "read", 1, 5, 51, s, 5);
            REFUSED.outside(Situation.FULL, "read", 1, 23, 51, s, 23);
        }
        REFUSED.finding(Situation.NOTHING, 1, "read", 0, 0);
        REFUSED.finding(Situation.SOME, 1, "read", 3, 5);
        REFUSED.finding(Situation.FULL, 1, "read", 3, 23);
        REFUSED.finding(Situation.FULL, 1, "read", 3, 51);
    }

    /** "three for each (a, b, HOUR), as many as are whole": 0 to 60 items, of each form. */
    private static void wholeItemsAreRead() {
        for (int form = 0; form < 3; form++) {
            for (int items : new int[] {0, 1, 2, 3, 4, 5, 6, 7, 57, 58, 59, 60}) {
                MarriedMap x = new MarriedMap();
                x.sheet(form, form, items);
                for (int i = 0; i < items; i++) {
                    x.lay(form, form, i, 6 + i % 3);
                }
                DUE.is(10, "read of " + items + " items", x.read(form, 9), items / 3);
                DUE.is(10, "count(4)", x.count(4), items / 3);
                DUE.is(10, "count(8)", x.count(8), 0);
            }
        }
    }

    /** "as long as each may be": the last number that may be, and the first that may not, in the first and behind it. */
    private static void asLongAsEachMayBe() {
        int[][] right = {{0, 0, 6}, {11, 0, 6}, {0, 11, 18}, {11, 11, 18}};
        int[][] wrong = {{-1, 0, 6}, {12, 0, 6}, {0, -1, 6}, {0, 12, 6}, {0, 0, 5}, {0, 0, 19}, {0, 0, 0}, {0, 0, -12}};
        for (int form = 0; form < 3; form++) {
            for (int[] r : right) {
                MarriedMap x = new MarriedMap();
                lay(x, 0, form, r);
                DUE.is(10, "read of one that may be", x.read(0, 0), 1);
            }
            for (int[] w : wrong) {
                MarriedMap first = new MarriedMap();
                lay(first, 0, form, w[0], w[1], w[2], 0, 0, 6);
                DUE.is(10, "read of one that may not be", first.read(0, 0), 0);
                DUE.is(10, "count(4)", first.count(4), 0);
                MarriedMap second = new MarriedMap();
                lay(second, 0, form, 1, 2, 7, w[0], w[1], w[2], 0, 0, 6);
                DUE.is(10, "read with one that may not be between", second.read(0, 0), 1);
                DUE.is(10, "count(4)", second.count(4), 1);
            }
        }
    }

    private static void itemsHaveTheLowestBits() {
        int[] wraps = {256, 65536};
        for (int form = 0; form < 3; form++) {
            for (int i = 0; i < 2; i++) {
                MarriedMap x = Due.duchy("50;40", "m052;w130");
                lay(x, 0, form, wraps[i], 1 + wraps[i], 12 + wraps[i]);
                DUE.is(10, "read of what wraps by " + wraps[i] + " in form " + form, x.read(0, 0), form <= i ? 1 : 0);
                DUE.is(10, "moved(0)", x.moved(0), form <= i ? 4 : -10002);
            }
        }
    }

    /** No FULL is told for it: a wedding for which there is no room may not be. */
    private static void readUntilFull() {
        for (int room = 0; room <= 3; room++) {
            MarriedMap x = new MarriedMap();
            for (int i = 0; i < 24 - room; i++) {
                x.ends(0, 0, 0);
            }
            lay(x, 0, 1, 0, 1, 6, 2, 3, 6);
            DUE.is(10, "read with room for " + room, x.read(0, 0), Math.min(room, 2));
            DUE.is(10, "count(4)", x.count(4), Math.min(24, 26 - room));
        }
        MarriedMap all = new MarriedMap();
        all.sheet(0, 0, 60);
        for (int i = 0; i < 60; i++) {
            all.lay(0, 0, i, 6);
        }
        DUE.is(10, "read of 20 weddings", all.read(0, 0), 20);
        DUE.is(10, "read of them again", all.read(0, 0), 4);
        DUE.is(10, "read of them again", all.read(0, 0), 0);
        DUE.is(10, "count(4)", all.count(4), 24);
    }

    private static void readInAWeek() {
        MarriedMap x = Due.duchy("50;40;30", "m052;w130;m163;w220");
        lay(x, 0, 1, 0, 1, 13, 2, 3, 6);
        x.cloud(8, 1);
        DUE.is(10, "read(0, 8)", x.read(0, 8), 2);
        DUE.is(10, "moved(0) under clouds", x.moved(0), 0);
        DUE.is(10, "moved(1) under clouds", x.moved(1), 0);
        x.cloud(8, 0);
        DUE.is(10, "moved(0)", x.moved(0), 8);
        DUE.is(10, "moved(1)", x.moved(1), 30);
        DUE.is(10, "ends(7, ..)", x.ends(7, 0, 0), BAD);
        x.lay(0, 1, 2, 19);
        DUE.is(10, "read(0, 20) of none that may be", x.read(0, 20), 0);
        DUE.is(10, "ends(8, ..): the week is as it was", x.ends(8, 0, 0), 3);
    }

    /** Promise 11: "how many are left. NOT: none." */
    private static void undoing() {
        REFUSED.not(Situation.NOTHING, "undo");
        REFUSED.not(Situation.FULL_TEXTS, "undo");
        MarriedMap x = Situation.FULL.made();
        for (int left = 23; left >= 0; left--) {
            DUE.is(11, "undo()", x.undo(), left);
            DUE.is(11, "count(4)", x.count(4), left);
        }
        DUE.is(11, "undo() of none", x.undo(), NOT);
        DUE.is(11, "count(4)", x.count(4), 0);
        for (int land = 0; land < 6; land++) {
            DUE.is(11, "width(" + land + ", 0)", x.width(land, 0), new int[] {99, 0, 50, 7, 30, 64}[land]);
        }
    }

    /** Weddings and partings of one couple, in turn, all by the law. */
    private static MarriedMap lawful(int number) {
        MarriedMap x = Due.duchy("50;40", "m052;w130");
        for (int i = 0; i < number; i++) {
            if (i % 2 == 0) {
                x.wed(i, 0, 1, 12);
            } else {
                x.ends(i, 0, i % 4 == 1 ? 0 : 1);
            }
        }
        return x;
    }

    /** "JUDGED: the first EVENT that is; NONE." */
    private static void theFirstAgainstTheLaw() {
        DUE.is(12, "judged() of none", new MarriedMap().judged(), NONE);
        for (int number = 1; number <= 24; number++) {
            MarriedMap x = lawful(number);
            DUE.is(12, "judged() of " + number + " by the law", x.judged(), NONE);
            DUE.is(33, "count(5)", x.count(5), 0);
        }
        for (int first = 0; first < 24; first++) {
            MarriedMap x = lawful(first);
            for (int i = first; i < 24; i++) {
                x.wed(51, 0, 0, 12);
                DUE.is(12, "judged(), the first is " + first, x.judged(), first);
                DUE.is(33, "count(5)", x.count(5), i - first + 1);
            }
        }
        MarriedMap x = Due.duchy("50;40", "m052;w130");
        x.ends(0, 0, 0);
        x.wed(0, 0, 1, 12);
        DUE.is(12, "judged(), the second is by the law", x.judged(), 0);
        DUE.is(33, "count(5)", x.count(5), 1);
    }

    private static int judgedOfWedding(String lands, String people, int a, int b) {
        MarriedMap x = Due.duchy(lands, people);
        x.wed(0, a, b, 6);
        return x.judged();
    }

    /** "that are there": the last of them, and the next number, up to the greatest. */
    private static void thereAndNotThere() {
        String people = ";w111".repeat(11);
        for (int number = 2; number <= 12; number++) {
            String told = "m011" + people.substring(0, 5 * (number - 1));
            for (int other = 1; other < 12; other++) {
                int due = other < number ? NONE : 0;
                DUE.is(12, "judged() of 0 and " + other + " of " + number, judgedOfWedding("10;20", told, 0, other), due);
                DUE.is(12, "judged() of " + other + " and 0 of " + number, judgedOfWedding("10;20", told, other, 0), due);
                MarriedMap x = Due.duchy("10;20", told);
                x.ends(0, 1, other);
                DUE.is(12, "judged() of a death of " + other + " of " + number, x.judged(), due);
            }
        }
    }

    /** "of LANDS next to one another": of any two of six; the last is not next to the first. */
    private static void landsNextToOneAnother() {
        for (int one = 0; one < 6; one++) {
            for (int other = 0; other < 6; other++) {
                int due = one - other == 1 || other - one == 1 ? NONE : 0;
                String told = "judged() of lands " + one + " and " + other;
                DUE.is(12, told, judgedOfWedding("10;10;10;10;10;10", ONE_OF_EACH, one, 6 + other), due);
                DUE.is(12, told, judgedOfWedding("10;10;10;10;10;10", ONE_OF_EACH, 6 + other, one), due);
            }
        }
    }

    /** "of an m and a w". */
    private static void aManAndAWoman() {
        for (int one = 0; one < 6; one++) {
            for (int other = 0; other < 6; other++) {
                String lands = "10;10;10;10;10;10";
                DUE.is(12, "judged() of two m", judgedOfWedding(lands, ONE_OF_EACH, one, other), 0);
                DUE.is(12, "judged() of two w", judgedOfWedding(lands, ONE_OF_EACH, 6 + one, 6 + other), 0);
            }
        }
    }

    /** "alive, not wed": each of both, whoever is told first. */
    private static void aliveAndNotWed() {
        for (int order = 0; order < 2; order++) {
            for (int who = 0; who < 2; who++) {
                MarriedMap dead = Due.duchy("50;40", "m052;w130;m063;w120");
                dead.ends(0, 1, who);
                dead.wed(0, order == 0 ? 0 : 1, order == 0 ? 1 : 0, 6);
                DUE.is(12, "judged() with a dead one", dead.judged(), 1);
                DUE.is(15, "state(.., 2, 0)", dead.state(1 - who, 2, 0), NONE);
                MarriedMap wed = Due.duchy("50;40", "m052;w130;m063;w120");
                wed.wed(0, 0, 1, 6);
                int again = who;
                int free = who == 0 ? 3 : 2;
                wed.wed(0, order == 0 ? again : free, order == 0 ? free : again, 6);
                DUE.is(12, "judged() with a wed one", wed.judged(), 1);
                DUE.is(15, "state(again, 2, 0)", wed.state(again, 2, 0), 1 - who);
                DUE.is(15, "state(free, 2, 0)", wed.state(free, 2, 0), NONE);
                wed.undo();
                wed.ends(0, 0, who);
                wed.wed(0, again, free, 6);
                DUE.is(12, "judged() with one who has parted", wed.judged(), NONE);
            }
        }
        MarriedMap twice = lawful(1);
        twice.wed(1, 0, 1, 12);
        DUE.is(12, "judged() of a couple once more", twice.judged(), 1);
    }

    /** "a PARTING of one who is there and wed; a DEATH of one who is there and alive". */
    private static void endsByLaw() {
        for (int who = 0; who < 2; who++) {
            MarriedMap x = Due.duchy("50;40", "m052;w130");
            x.ends(0, 0, who);
            DUE.is(12, "judged() of a parting before a wedding", x.judged(), 0);
            x.undo();
            x.wed(0, 0, 1, 12);
            x.ends(0, 0, who);
            DUE.is(12, "judged() of a parting", x.judged(), NONE);
            for (int again = 0; again < 2; again++) {
                x.ends(0, 0, again);
                DUE.is(12, "judged() of a parting again", x.judged(), 2);
                x.undo();
            }
            x.undo();
            x.ends(0, 1, who);
            DUE.is(12, "judged() of a death", x.judged(), NONE);
            for (int again = 0; again < 2; again++) {
                x.ends(0, 0, again);
                DUE.is(12, "judged() of a parting behind a death", x.judged(), 2);
                x.undo();
            }
            x.ends(0, 1, who);
            DUE.is(12, "judged() of a death again", x.judged(), 2);
            x.undo();
            x.ends(0, 1, 1 - who);
            DUE.is(12, "judged() of the death of the other one", x.judged(), NONE);
        }
    }

    /** "What is against it does nothing": no answer about all is another one behind it. */
    private static void againstTheLawDoesNothing() {
        int[][] against = {{0, 0, 0}, {0, 0, 2}, {0, 1, 3}, {0, 0, 5}, {0, 6, 7}, {0, 4, 5}, {0, 0, 11}, {1, 4, 0}, {1, 11, 0},
            {2, 3, 0}, {2, 11, 0}};
        for (int[] event : against) {
            MarriedMap x = Due.duchy("50;40;30", "m052;w130;m190;w220;m041;w211");
            x.wed(0, 0, 1, 12);
            x.wed(0, 2, 3, 12);
            x.ends(0, 1, 3);
            if (event[0] == 0) {
                x.wed(0, event[1], event[2], 6);
            } else {
                x.ends(0, event[0] - 1, event[1]);
            }
            String told = "event " + event[0] + " of " + event[1] + " and " + event[2];
            DUE.is(12, "judged() of " + told, x.judged(), 3);
            DUE.is(13, "moved(3) of " + told, x.moved(3), 0);
            DUE.is(16, "nobody(4) of " + told, x.nobody(4), 0);
            int[] widths = {54, 36, 23};
            for (int land = 0; land < 3; land++) {
                DUE.is(14, "width(" + land + ", 4) of " + told, x.width(land, 4), widths[land]);
            }
            int[][] states = {{1, 0, NONE, NONE, NONE, NONE}, {0, 0, 7, 0, 0, 0}, {1, 1, 1, 0, 1, 1}};
            for (int person = 0; person < 6; person++) {
                for (int what = 0; what < 3; what++) {
                    DUE.is(15, "state(" + person + ", 4, " + what + ") of " + told, x.state(person, 4, what), states[what][person]);
                }
            }
        }
    }

    private static String two(int width) {
        return "" + width / 10 + width % 10;
    }

    /** "takes the difference of both from the other LAND, or all that this has, if it is less": any of both. */
    private static void takesTheDifferenceOrAll() {
        for (int difference = 0; difference <= 17; difference++) {
            for (int width = 0; width <= 18; width++) {
                for (int order = 0; order < 2; order++) {
                    takes(difference, width, order);
                }
            }
        }
        MarriedMap most = Due.duchy("99;99", "m099;w110");
        most.wed(0, 0, 1, 6);
        DUE.is(13, "moved(0) of the greatest difference", most.moved(0), 99);
        DUE.is(14, "width(0, 1)", most.width(0, 1), 198);
    }

    /** From land 1 and from land 0, told in one order or the other. */
    private static void takes(int difference, int width, int order) {
        int height = Math.min(9, 1 + difference);
        String shadow = "" + height + (1 + difference - height);
        int moved = Math.min(difference, width);
        String told = " of a land of " + width + " that gives " + difference;
        MarriedMap first = Due.duchy("20;" + two(width), "m0" + shadow + ";w110");
        first.wed(0, order, 1 - order, 12);
        DUE.is(13, "moved(0)" + told, first.moved(0), moved);
        DUE.is(14, "width(0, 1)" + told, first.width(0, 1), 20 + moved);
        DUE.is(14, "width(1, 1)" + told, first.width(1, 1), width - moved);
        DUE.is(15, "state(0, 1, 0)" + told, first.state(0, 1, 0), 1);
        MarriedMap second = Due.duchy(two(width) + ";20", "m010;w1" + shadow);
        second.wed(0, order, 1 - order, 12);
        DUE.is(13, "moved(0)" + told, second.moved(0), -moved);
        DUE.is(14, "width(0, 1)" + told, second.width(0, 1), width - moved);
        DUE.is(14, "width(1, 1)" + told, second.width(1, 1), 20 + moved);
        DUE.is(15, "state(1, 1, 0)" + told, second.state(1, 1, 0), 0);
    }

    /** Where no shadow is longer, nothing moves, though they are wed; and where it is by one, one hand does. */
    private static void likeShadows() {
        for (int hat = 4; hat <= 6; hat++) {
            MarriedMap x = Due.duchy("50;40", "m05" + hat + ";w191");
            x.wed(0, 0, 1, 12);
            DUE.is(13, "moved(0) of shadows " + (5 + hat) + " and 10", x.moved(0), hat - 5);
            DUE.is(14, "width(0, 1)", x.width(0, 1), 45 + hat);
            DUE.is(14, "width(1, 1)", x.width(1, 1), 45 - hat);
            DUE.is(15, "state(0, 1, 0)", x.state(0, 1, 0), 1);
            x.ends(0, 0, 0);
            DUE.is(13, "moved(1) of their parting", x.moved(1), Math.abs(hat - 5));
            DUE.is(16, "nobody(2)", x.nobody(2), Math.abs(hat - 5));
            DUE.is(14, "width(0, 2)", x.width(0, 2), hat == 4 ? 49 : 50);
            DUE.is(14, "width(1, 2)", x.width(1, 2), hat == 6 ? 39 : 40);
        }
    }

    /** An HOUR of 6 to 18. */
    private static void hoursOfWeddings() {
        int[] times = {7, 6, 5, 4, 3, 2, 1, 2, 3, 4, 5, 6, 7};
        for (int hour = 6; hour <= 18; hour++) {
            MarriedMap x = Due.duchy("50;90", "m052;w130;w020;m150");
            x.wed(0, 0, 1, hour);
            x.wed(0, 2, 3, hour);
            DUE.is(13, "moved(0) at " + hour, x.moved(0), 4 * times[hour - 6]);
            DUE.is(13, "moved(1) at " + hour, x.moved(1), -3 * times[hour - 6]);
        }
    }

    /** "in such a WEEK nobody has a SHADOW": in it, not in the one before or behind. */
    private static void cloudsOfAWeek() {
        for (int clouded : new int[] {0, 1, 25, 50, 51}) {
            for (int week = Math.max(0, clouded - 1); week <= Math.min(51, clouded + 1); week++) {
                MarriedMap x = Due.duchy("50;40", "m052;w130");
                x.cloud(clouded, 1);
                x.wed(week, 0, 1, 6);
                int moved = week == clouded ? 0 : 28;
                DUE.is(13, "moved(0) in week " + week + ", clouds in " + clouded, x.moved(0), moved);
                DUE.is(12, "judged()", x.judged(), NONE);
                x.ends(51, 1, 0);
                DUE.is(13, "moved(1): a death is of what was moved", x.moved(1), moved);
                DUE.is(15, "state(1, 2, 1)", x.state(1, 2, 1), moved);
            }
        }
    }

    /**
     * "what their WEDDING MOVED goes from the LAND that took it (or all that this has, if it is less)": a wedding
     * moves 9, another takes up to 11 from the same land, and then the first two part or one of them dies.
     */
    private static void partsWithWhatItMovedOrAll() {
        for (int begun = 0; begun <= 2; begun++) {
            for (int taken = 0; taken <= 11; taken++) {
                for (int kind = 0; kind < 2; kind++) {
                    for (int who = 0; who < 2; who++) {
                        parts(begun, taken, kind, who);
                    }
                }
            }
        }
    }

    private static void parts(int begun, int taken, int kind, int who) {
        MarriedMap x = Due.duchy(two(begun) + ";50", "m091;w110;w010;m1" + (taken < 9 ? "1" + taken : "9" + (taken - 8)));
        x.wed(0, 0, 1, 12);
        x.wed(0, 2, 3, 12);
        x.ends(0, kind, who);
        int left = begun + 9 - Math.min(taken, begun + 9);
        int gone = Math.min(9, left);
        String told = " of a land of " + left + " that took 9";
        DUE.is(12, "judged()" + told, x.judged(), NONE);
        DUE.is(13, "moved(2)" + told, x.moved(2), gone);
        DUE.is(14, "width(0, 3)" + told, x.width(0, 3), left - gone);
        DUE.is(14, "width(1, 3)" + told, x.width(1, 3), 41 + Math.min(taken, begun + 9));
        DUE.is(16, "nobody(3)" + told, x.nobody(3), kind == 0 ? gone : 0);
        DUE.is(15, "state(other, 3, 1)" + told, x.state(1 - who, 3, 1), kind == 0 ? 0 : gone);
        DUE.is(15, "state(one, 3, 1)" + told, x.state(who, 3, 1), 0);
        DUE.is(15, "state(one, 3, 2)" + told, x.state(who, 3, 2), 1 - kind);
        DUE.is(15, "state(other, 3, 2)" + told, x.state(1 - who, 3, 2), 1);
        DUE.is(15, "state(one, 3, 0)" + told, x.state(who, 3, 0), NONE);
        DUE.is(15, "state(other, 3, 0)" + told, x.state(1 - who, 3, 0), NONE);
    }

    /** Twelve weddings and partings: what is nobody's is the sum, until the other land has no more. */
    private static void nobodysIsTheSum() {
        MarriedMap x = Due.duchy("50;40", "m052;w130");
        for (int i = 0; i < 12; i++) {
            x.wed(0, 1, 0, 12);
            x.ends(0, 0, i % 2);
        }
        for (int k = 0; k <= 24; k++) {
            int partings = Math.min(k / 2, 10);
            DUE.is(16, "nobody(" + k + ")", x.nobody(k), 4 * partings);
            DUE.is(14, "width(1, " + k + ")", x.width(1, k), Math.max(0, 40 - 4 * ((k + 1) / 2)));
            DUE.is(14, "width(0, " + k + ")", x.width(0, k), k % 2 == 1 && k < 20 ? 54 : 50);
        }
        DUE.is(13, "moved(19)", x.moved(19), 4);
        DUE.is(13, "moved(20): nothing is left", x.moved(20), 0);
        DUE.is(13, "moved(23)", x.moved(23), 0);
        DUE.is(16, "nobody(25)", x.nobody(25), BAD);
    }

    /** A woman who survives eleven men: her province is the sum. */
    private static void widowedElevenTimes() {
        MarriedMap x = Due.duchy("50;99", "w110" + ";m050".repeat(11));
        for (int man = 1; man < 12; man++) {
            x.wed(0, 0, man, 12);
            x.ends(0, 1, man);
        }
        for (int k = 0; k <= 22; k++) {
            DUE.is(15, "state(0, " + k + ", 1)", x.state(0, k, 1), 4 * (k / 2));
            DUE.is(15, "state(0, " + k + ", 0)", x.state(0, k, 0), k % 2 == 1 ? 1 + k / 2 : NONE);
            DUE.is(15, "state(0, " + k + ", 2)", x.state(0, k, 2), 1);
            DUE.is(15, "state(11, " + k + ", 2)", x.state(11, k, 2), k == 22 ? 0 : 1);
            DUE.is(15, "state(11, " + k + ", 0)", x.state(11, k, 0), k == 21 ? 0 : NONE);
            DUE.is(15, "state(11, " + k + ", 1)", x.state(11, k, 1), 0);
            DUE.is(16, "nobody(" + k + ")", x.nobody(k), 0);
        }
        DUE.is(12, "judged()", x.judged(), NONE);
        x.ends(0, 1, 0);
        DUE.is(15, "state(0, 23, 1): it stays", x.state(0, 23, 1), 44);
        DUE.is(13, "moved(22)", x.moved(22), 0);
    }

    /** "A DEATH: of one who is wed ..; of others nothing." */
    private static void deathsOfOthers() {
        MarriedMap x = Due.duchy("50;40", "m052;w130;m063");
        x.wed(0, 0, 1, 12);
        x.ends(0, 1, 2);
        DUE.is(13, "moved(1) of one never wed", x.moved(1), 0);
        DUE.is(15, "state(0, 2, 0): others stay wed", x.state(0, 2, 0), 1);
        x.ends(0, 0, 0);
        x.ends(0, 1, 0);
        DUE.is(13, "moved(3) of one who has parted", x.moved(3), 0);
        DUE.is(15, "state(1, 4, 1)", x.state(1, 4, 1), 0);
        DUE.is(16, "nobody(4)", x.nobody(4), 4);
        DUE.is(14, "width(0, 4)", x.width(0, 4), 50);
    }

    /** "as any number": -1 to -4 and -11 to -15 are what was moved, too. */
    private static void numbersThatLookLikeRefusals() {
        for (int moved = 1; moved <= 17; moved++) {
            int height = Math.min(9, 1 + moved);
            MarriedMap x = Due.duchy("50;40", "m010;w1" + height + (1 + moved - height));
            x.wed(0, 0, 1, 12);
            DUE.is(13, "moved(0)", x.moved(0), -moved);
        }
    }

    /** "behind k EVENTS (0 to as many as there are)". */
    private static void behindEachNumberOfEvents() {
        for (int number = 0; number <= 24; number++) {
            MarriedMap x = lawful(number);
            int nobodys = 4 * (number / 2);
            boolean areWed = number % 2 == 1;
            int lost = Math.min(40, 4 * ((number + 1) / 2));
            DUE.is(14, "width(0, 0)", x.width(0, 0), 50);
            DUE.is(14, "width(1, " + number + ")", x.width(1, number), 40 - lost);
            DUE.is(14, "width(1, one more)", x.width(1, number + 1), BAD);
            DUE.is(14, "width(2, 0)", x.width(2, 0), BAD);
            DUE.is(15, "state(1, " + number + ", 0)", x.state(1, number, 0), areWed ? 0 : NONE);
            DUE.is(15, "state(1, one more, 0)", x.state(1, number + 1, 0), BAD);
            DUE.is(15, "state(2, 0, 0)", x.state(2, 0, 0), BAD);
            DUE.is(16, "nobody(" + number + ")", x.nobody(number), Math.min(40, nobodys));
            DUE.is(16, "nobody(one more)", x.nobody(number + 1), BAD);
            DUE.is(13, "moved(" + number + ")", x.moved(number), -10002);
            if (number > 0) {
                DUE.is(13, "moved(" + (number - 1) + ")", x.moved(number - 1), number <= 20 ? 4 : 0);
            }
        }
    }

    private static void questionsRefused() {
        Situation[] in = {Situation.NOTHING, Situation.SOME, Situation.FULL};
        int[] lands = {0, 3, 6};
        int[] people = {0, 6, 12};
        int[] events = {0, 3, 24};
        for (int i = 0; i < 3; i++) {
            int last = events[i] - 1;
            REFUSED.outside(in[i], "moved", 0, 0, last, Math.max(0, last));
            REFUSED.outside(in[i], "nobody", 0, 0, events[i], events[i]);
            REFUSED.outside(in[i], "width", 0, 0, lands[i] - 1, Math.max(0, lands[i] - 1), 0);
            REFUSED.outside(in[i], "width", 1, 0, events[i], 0, events[i]);
            REFUSED.outside(in[i], "state", 0, 0, people[i] - 1, Math.max(0, people[i] - 1), 0, 0);
            REFUSED.outside(in[i], "state", 1, 0, events[i], 0, events[i], 0);
            REFUSED.outside(in[i], "state", 2, 0, 2, 0, 0, 2);
        }
        REFUSED.bad(Situation.FULL_TEXTS, "width", 0, 0);
        REFUSED.bad(Situation.FULL_TEXTS, "state", 0, 0, 0);
    }

    private static void questionsLeaveAll() {
        for (Situation in : new Situation[] {Situation.SOME, Situation.FULL}) {
            REFUSED.asks(in, "judged");
            for (int k = 0; k < 3; k++) {
                REFUSED.asks(in, "moved", k);
                REFUSED.asks(in, "width", k, k);
                REFUSED.asks(in, "nobody", k);
                for (int what = 0; what < 3; what++) {
                    REFUSED.asks(in, "state", 0, k, what);
                }
            }
        }
    }
}
