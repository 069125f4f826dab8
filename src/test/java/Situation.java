/** Duchies in which calls are refused: with nothing in it, with some, with all places full. */
enum Situation {
    NOTHING, SOME, FULL, FULL_TEXTS;

    MarriedMap made() {
        switch (this) {
            case SOME:
                return some();
            case FULL:
                return full();
            case FULL_TEXTS:
                return fullTexts();
            default:
                return new MarriedMap();
        }
    }

    /** Three lands, six people, three events up to week 5, two surveys; sheet 3 is lost. */
    private static MarriedMap some() {
        MarriedMap x = Due.duchy("50;40;30", "m052;w081;w130;m193;w220;m299");
        x.wed(3, 0, 2, 12);
        x.wed(4, 3, 4, 7);
        x.ends(5, 1, 3);
        x.cloud(9, 1);
        x.survey(0, 1, 54);
        x.survey(1, 2, 41);
        rows(x);
        return x;
    }

    /** Six lands, twelve people, 24 events up to week 23, eight surveys; sheet 3 is lost, and a finding was made. */
    private static MarriedMap full() {
        MarriedMap x = Due.duchy("99;00;50;07;30;64",
                "m052;w081;w130;m193;w220;m299;m311;w345;w499;m410;m527;w563");
        int[][] couples = {{0, 2}, {3, 4}, {6, 8}, {9, 11}, {0, 1}, {5, 7}};
        for (int i = 0; i < couples.length; i++) {
            x.wed(i, couples[i][0], couples[i][1], 6 + i);
        }
        for (int i = 6; i < 24; i++) {
            x.ends(i, i % 7 == 0 ? 1 : 0, i % 12);
        }
        for (int i = 0; i < 8; i++) {
            x.survey(i % 6, i, 10 * i);
        }
        x.cloud(0, 1);
        x.cloud(2, 1);
        x.cloud(51, 1);
        rows(x);
        x.sheet(3, 0, -1);
        return x;
    }

    /** Texts of 20 and 60 bytes; both have a fault then. */
    private static MarriedMap fullTexts() {
        return Due.duchy("11;12;13;14;15;16;17", "m011;".repeat(12));
    }

    /** Sheets 0 to 2 are rows of their own form, with an item of each kind of number. */
    private static void rows(MarriedMap x) {
        for (int form = 0; form < 3; form++) {
            x.sheet(form, form, 4);
            x.lay(form, form, 0, 7);
            x.lay(form, form, 1, Integer.MIN_VALUE);
            x.lay(form, form, 2, -1);
        }
    }
}
