/** Promises 27 to 32 at the edges that the document names. */
public final class SheetBoundsTest {
    private static final Due DUE = new Due("SheetBoundsTest");
    private static final Refused REFUSED = new Refused(DUE);
    private static final int LEAST = Integer.MIN_VALUE;
    private static final int NULL = 1, INDEX = 2, CAST = 3, STORE = 4, SIZE = 5;
    private static final Situation[] THREE = {Situation.NOTHING, Situation.SOME, Situation.FULL};

    public static void main(String[] args) {
        rowsOfEachSize();
        aNewRowIsOfNothing();
        sheetsAreApart();
        sheetRefused();
        losing();
        loseRefused();
        lowestBits();
        layRefused();
        everyItemIsThere();
        theLeastIntIsAnItem();
        getRefused();
        copiesOfEachLength();
        copiesWithinOneSheet();
        copiesBetweenForms();
        copyRefused();
        asManyAsItemsAndLands();
        writesBehindEachNumberOfEvents();
        writesTheLowestBits();
        writeRefused();
        DUE.end();
    }

    private static void items(String told, MarriedMap x, int s, int form, int... due) {
        for (int i = 0; i < due.length; i++) {
            DUE.is(30, "get(" + s + ", " + form + ", " + i + ") " + told, x.get(s, form, i), due[i]);
        }
    }

    /** "a row of a FORM ..., of 0 to 60 items (0 at first)". */
    private static void rowsOfEachSize() {
        for (int s = 0; s < 4; s++) {
            for (int form = 0; form < 3; form++) {
                for (int n = 0; n <= 60; n++) {
                    MarriedMap x = new MarriedMap();
                    DUE.is(27, "sheet(" + s + ", " + form + ", " + n + ")", x.sheet(s, form, n), n);
                    for (int i = 0; i < n; i++) {
                        DUE.is(27, "get: 0 at first", x.get(s, form, i), 0);
                    }
                    DUE.is(27, "count(8)", x.count(8), 0);
                    DUE.is(27, "get of one too many", x.get(s, form, n), LEAST);
                    DUE.is(27, "count(8)", x.count(8), INDEX);
                    DUE.is(27, "lose(" + s + ")", x.lose(s), n);
                }
            }
        }
    }

    /** A row that is made again, shorter and then as long, has none of the old items. */
    private static void aNewRowIsOfNothing() {
        for (int form = 0; form < 3; form++) {
            MarriedMap x = new MarriedMap();
            x.sheet(0, form, 60);
            for (int i = 0; i < 60; i++) {
                x.lay(0, form, i, 7);
            }
            DUE.is(27, "sheet(0, form, 0)", x.sheet(0, form, 0), 0);
            DUE.is(27, "get(0, form, 0)", x.get(0, form, 0), LEAST);
            int other = (form + 1) % 3;
            DUE.is(27, "sheet(0, other, 60)", x.sheet(0, other, 60), 60);
            for (int i = 0; i < 60; i++) {
                DUE.is(27, "get(0, other, " + i + ")", x.get(0, other, i), 0);
            }
            DUE.is(27, "get(0, form, 0), of the old form", x.get(0, form, 0), LEAST);
            DUE.is(27, "count(8)", x.count(8), CAST);
            x.lay(0, other, 59, 7);
            x.lose(0);
            x.sheet(0, other, 60);
            DUE.is(27, "get(0, other, 59) behind a loss", x.get(0, other, 59), 0);
        }
    }

    private static void sheetsAreApart() {
        MarriedMap x = new MarriedMap();
        for (int s = 0; s < 4; s++) {
            x.sheet(s, 1, 3);
            x.lay(s, 1, s % 3, 10 + s);
        }
        items("of four", x, 0, 1, 10, 0, 0);
        items("of four", x, 1, 1, 0, 11, 0);
        items("of four", x, 2, 1, 0, 0, 12);
        items("of four", x, 3, 1, 13, 0, 0);
        x.sheet(1, 1, 2);
        x.lose(2);
        items("of the others", x, 0, 1, 10, 0, 0);
        items("of the new one", x, 1, 1, 0, 0);
        items("of the others", x, 3, 1, 13, 0, 0);
        DUE.is(28, "lose(2)", x.lose(2), -11);
    }

    /** Promise 27: "BAD: SHEET, FORM, above 60; SIZE", in this order. */
    private static void sheetRefused() {
        for (int n : new int[] {-1, 0, 60}) {
            REFUSED.outsideEver("sheet", 0, 0, 3, 0, 0, n);
            REFUSED.outsideEver("sheet", 0, 0, 3, 3, 2, n);
            REFUSED.outsideEver("sheet", 1, 0, 2, 0, 0, n);
            REFUSED.outsideEver("sheet", 1, 0, 2, 3, 2, n);
        }
        for (Situation in : THREE) {
            for (int n : new int[] {61, 62, 256, 65536, 65536 + 60, Integer.MAX_VALUE}) {
                REFUSED.bad(in, "sheet", 0, 0, n);
                REFUSED.bad(in, "sheet", 3, 2, n);
            }
            for (int n : new int[] {-1, -2, -60, -61, -256, LEAST}) {
                REFUSED.finding(in, SIZE, "sheet", 0, 0, n);
                REFUSED.finding(in, SIZE, "sheet", 3, 2, n);
            }
        }
    }

    /** Promise 28: "how many items it had", of none and of sixty. */
    private static void losing() {
        for (int s = 0; s < 4; s++) {
            for (int n : new int[] {0, 1, 59, 60}) {
                MarriedMap x = new MarriedMap();
                x.sheet(s, s % 3, n);
                DUE.is(28, "lose(" + s + ") of " + n, x.lose(s), n);
                DUE.is(28, "count(8)", x.count(8), 0);
                DUE.is(28, "lose(" + s + ") again", x.lose(s), -11);
                DUE.is(28, "count(8)", x.count(8), NULL);
                DUE.is(28, "sheet(" + s + ", 0, 1): it can be made again", x.sheet(s, 0, 1), 1);
            }
        }
    }

    private static void loseRefused() {
        REFUSED.outsideEver("lose", 0, 0, 3, 0);
        REFUSED.outsideEver("lose", 0, 0, 3, 3);
        for (Situation in : THREE) {
            REFUSED.finding(in, NULL, "lose", 3);
        }
    }

    /** Promise 29: "the lowest bits that it has": about each power of two. */
    private static void lowestBits() {
        for (int form = 0; form < 3; form++) {
            for (int bit = 0; bit < 32; bit++) {
                MarriedMap x = new MarriedMap();
                x.sheet(form, form, 3);
                for (int more = -1; more <= 1; more++) {
                    for (int sign = -1; sign <= 1; sign += 2) {
                        int v = sign * ((1 << bit) + more);
                        int due = form == 0 ? (byte) v : form == 1 ? (short) v : v;
                        DUE.is(29, "lay(" + form + ", " + form + ", 1, " + v + ")", x.lay(form, form, 1, v), 1);
                        items("of " + v, x, form, form, 0, due, 0);
                    }
                }
                DUE.is(29, "count(8)", x.count(8), 0);
            }
        }
    }

    /** Promise 29: "BAD; NULL; CAST; INDEX", in this order. */
    private static void layRefused() {
        for (int i : new int[] {-1, 0, 60}) {
            REFUSED.outsideEver("lay", 0, 0, 3, 0, 0, i, 5);
            REFUSED.outsideEver("lay", 0, 0, 3, 3, 2, i, 5);
            REFUSED.outsideEver("lay", 1, 0, 2, 0, 0, i, 5);
            REFUSED.outsideEver("lay", 1, 0, 2, 3, 2, i, 5);
        }
        for (Situation in : new Situation[] {Situation.SOME, Situation.FULL}) {
            for (int form = 0; form < 3; form++) {
                for (int i : new int[] {0, -1, 4, LEAST}) {
                    REFUSED.finding(in, NULL, "lay", 3, form, i, 5);
                    REFUSED.finding(in, CAST, "lay", (form + 1) % 3, form, i, 5);
                    REFUSED.finding(in, CAST, "lay", (form + 2) % 3, form, i, 5);
                }
                for (int i : new int[] {-1, 4, 5, 60, 256, 65536, LEAST, Integer.MAX_VALUE}) {
                    REFUSED.finding(in, INDEX, "lay", form, form, i, 5);
                }
            }
        }
    }

    /** The first and the last item of sixty, each with a number of its own. */
    private static void everyItemIsThere() {
        for (int form = 0; form < 3; form++) {
            MarriedMap x = new MarriedMap();
            x.sheet(3, form, 60);
            for (int i = 0; i < 60; i++) {
                DUE.is(29, "lay(3, form, " + i + ", ..)", x.lay(3, form, i, 60 - 2 * i), 1);
            }
            for (int i = 0; i < 60; i++) {
                DUE.is(30, "get(3, form, " + i + ")", x.get(3, form, i), 60 - 2 * i);
            }
            DUE.is(29, "lay(3, form, 60, 1)", x.lay(3, form, 60, 1), -12);
            DUE.is(29, "lay(3, form, -1, 1)", x.lay(3, form, -1, 1), -12);
            DUE.is(30, "get(3, form, 60)", x.get(3, form, 60), LEAST);
            DUE.is(30, "get(3, form, -1)", x.get(3, form, -1), LEAST);
            DUE.is(30, "get(3, form, 59)", x.get(3, form, 59), -58);
        }
    }

    /** "(count() 8 tells)": where the least int is the item itself, it tells no finding. */
    private static void theLeastIntIsAnItem() {
        MarriedMap x = new MarriedMap();
        x.sheet(0, 2, 1);
        x.lay(0, 2, 0, LEAST);
        DUE.is(30, "get(0, 2, 0)", x.get(0, 2, 0), LEAST);
        DUE.is(30, "count(8): it is there", x.count(8), 0);
        DUE.is(30, "get(0, 2, 1)", x.get(0, 2, 1), LEAST);
        DUE.is(30, "count(8): it is not", x.count(8), INDEX);
        DUE.is(30, "get(4, 2, 0)", x.get(4, 2, 0), LEAST);
        DUE.is(30, "count(8): BAD is no finding", x.count(8), INDEX);
    }

    /** Promise 30: "BAD: the least int; so are NULL, CAST, INDEX". */
    private static void getRefused() {
        for (int i : new int[] {-1, 0, 60}) {
            REFUSED.outsideEver("get", 0, 0, 3, 0, 0, i);
            REFUSED.outsideEver("get", 0, 0, 3, 3, 2, i);
            REFUSED.outsideEver("get", 1, 0, 2, 0, 0, i);
            REFUSED.outsideEver("get", 1, 0, 2, 3, 2, i);
        }
        for (Situation in : new Situation[] {Situation.SOME, Situation.FULL}) {
            for (int form = 0; form < 3; form++) {
                for (int i : new int[] {0, -1, 4, LEAST}) {
                    REFUSED.finding(in, NULL, "get", 3, form, i);
                    REFUSED.finding(in, CAST, "get", (form + 1) % 3, form, i);
                    REFUSED.finding(in, CAST, "get", (form + 2) % 3, form, i);
                }
                for (int i : new int[] {-1, 4, 5, 60, 256, 65536, LEAST, Integer.MAX_VALUE}) {
                    REFUSED.finding(in, INDEX, "get", form, form, i);
                }
                REFUSED.asks(in, "get", form, form, 3);
            }
        }
    }

    /** Sheet 0 of five items 1 to 5, sheet 1 of four items 11 to 14, both of a form. */
    private static MarriedMap rows(int form) {
        MarriedMap x = new MarriedMap();
        x.sheet(0, form, 5);
        x.sheet(1, form, 4);
        for (int i = 0; i < 5; i++) {
            x.lay(0, form, i, 1 + i);
            x.lay(1, form, i, 11 + i);
        }
        x.sheet(3, 0, -1);
        return x;
    }

    /** Promise 31: "INDEX: below 0, not so many": each place and each length, about both ends. */
    private static void copiesOfEachLength() {
        for (int form = 0; form < 3; form++) {
            for (int i = -1; i <= 6; i++) {
                for (int j = -1; j <= 5; j++) {
                    for (int n = -1; n <= 6; n++) {
                        copies(form, i, j, n);
                    }
                }
            }
        }
    }

    private static void copies(int form, int i, int j, int n) {
        MarriedMap x = rows(form);
        boolean may = i >= 0 && j >= 0 && n >= 0 && i + n <= 5 && j + n <= 4;
        String told = "copy(0, " + i + ", 1, " + j + ", " + n + ")";
        DUE.is(31, told, x.copy(0, i, 1, j, n), may ? 1 : -12);
        DUE.is(31, "count(8) behind " + told, x.count(8), may ? SIZE : INDEX);
        int[] due = {11, 12, 13, 14};
        for (int at = 0; may && at < n; at++) {
            due[j + at] = 1 + i + at;
        }
        items("behind " + told, x, 1, form, due);
        items("behind " + told, x, 0, form, 1, 2, 3, 4, 5);
    }

    /** "to SHEET t (perhaps s, as they were)": any part of it to any other, over one another too. */
    private static void copiesWithinOneSheet() {
        for (int form = 0; form < 3; form++) {
            for (int i = 0; i <= 5; i++) {
                for (int j = 0; j <= 5; j++) {
                    for (int n = 0; n <= 6; n++) {
                        MarriedMap x = rows(form);
                        boolean may = i + n <= 5 && j + n <= 5;
                        String told = "copy(0, " + i + ", 0, " + j + ", " + n + ")";
                        DUE.is(31, told, x.copy(0, i, 0, j, n), may ? 1 : -12);
                        int[] due = {1, 2, 3, 4, 5};
                        for (int at = 0; may && at < n; at++) {
                            due[j + at] = 1 + i + at;
                        }
                        items("behind " + told, x, 0, form, due);
                    }
                }
            }
        }
        MarriedMap all = new MarriedMap();
        all.sheet(2, 2, 60);
        all.sheet(3, 2, 60);
        for (int i = 0; i < 60; i++) {
            all.lay(2, 2, i, LEAST + i);
        }
        DUE.is(31, "copy of sixty items", all.copy(2, 0, 3, 0, 60), 1);
        DUE.is(31, "copy of sixty-one", all.copy(2, 0, 3, 0, 61), -12);
        for (int i = 1; i < 60; i++) {
            DUE.is(31, "get(3, 2, " + i + ")", all.get(3, 2, i), LEAST + i);
        }
    }

    /** "STORE: unlike FORMS", even of no items. */
    private static void copiesBetweenForms() {
        for (int from = 0; from < 3; from++) {
            for (int to = 0; to < 3; to++) {
                for (int n = 0; n <= 4; n++) {
                    MarriedMap x = Situation.SOME.made();
                    DUE.is(31, "copy from form " + from + " to " + to, x.copy(from, 0, to, 0, n), from == to ? 1 : -14);
                    DUE.is(31, "count(8)", x.count(8), from == to ? 0 : STORE);
                }
            }
        }
    }

    /** Promise 31: "BAD: the SHEETS; NULL: s, t; STORE; INDEX", in this order. */
    private static void copyRefused() {
        for (int n : new int[] {-1, 0, 60}) {
            for (int s : new int[] {0, 3}) {
                REFUSED.outsideEver("copy", 0, 0, 3, s, 0, 1, 0, n);
                REFUSED.outsideEver("copy", 0, 0, 3, s, 0, 3, 0, n);
                REFUSED.outsideEver("copy", 2, 0, 3, 1, 0, s, 0, n);
                REFUSED.outsideEver("copy", 2, 0, 3, 3, 0, s, 0, n);
            }
        }
        int[] ends = {-1, LEAST, 5, 256, Integer.MAX_VALUE};
        for (Situation in : new Situation[] {Situation.SOME, Situation.FULL}) {
            for (int form = 0; form < 3; form++) {
                for (int i : new int[] {0, -1, 5}) {
                    REFUSED.finding(in, NULL, "copy", 3, i, form, 0, 1);
                    REFUSED.finding(in, NULL, "copy", form, i, 3, 0, 1);
                    REFUSED.finding(in, NULL, "copy", 3, i, 3, 0, 1);
                    REFUSED.finding(in, STORE, "copy", form, i, (form + 1) % 3, 0, 1);
                    REFUSED.finding(in, STORE, "copy", form, 0, (form + 2) % 3, i, -1);
                }
                for (int end : ends) {
                    REFUSED.finding(in, INDEX, "copy", form, end, form, 0, 0);
                    REFUSED.finding(in, INDEX, "copy", form, 0, form, end, 0);
                    REFUSED.finding(in, INDEX, "copy", form, 0, form, 0, end);
                    REFUSED.finding(in, INDEX, "copy", form, end, form, end, end);
                    REFUSED.finding(in, INDEX, "copy", form, 1, form, 0, Integer.MAX_VALUE);
                    REFUSED.finding(in, INDEX, "copy", form, 0, form, 1, Integer.MAX_VALUE);
                    REFUSED.finding(in, INDEX, "copy", form, Integer.MAX_VALUE, form, 0, 1);
                }
            }
        }
    }

    /** Promise 32: "from item 0 on, as many as there are items and LANDS: how many". */
    private static void asManyAsItemsAndLands() {
        int[] widths = {10, 21, 32, 43, 54, 65};
        for (int form = 0; form < 3; form++) {
            for (int lands = 0; lands <= 6; lands++) {
                for (int n = 0; n <= 8; n++) {
                    MarriedMap x = Due.duchy("10;21;32;43;54;65".substring(0, Math.max(0, 3 * lands - 1)), "");
                    x.sheet(form, form, n);
                    for (int i = 0; i < n; i++) {
                        x.lay(form, form, i, -7);
                    }
                    int due = Math.min(n, lands);
                    DUE.is(32, "write of " + lands + " lands to " + n + " items", x.write(0, form), due);
                    for (int i = 0; i < n; i++) {
                        DUE.is(32, "get(form, form, " + i + ")", x.get(form, form, i), i < due ? widths[i] : -7);
                    }
                }
            }
        }
        MarriedMap fault = Due.duchy("10;", "");
        fault.sheet(0, 0, 60);
        DUE.is(32, "write with a fault of lands", fault.write(0, 0), 0);
    }

    private static void writesBehindEachNumberOfEvents() {
        MarriedMap x = Due.duchy("50;60", "m052;w130");
        for (int i = 0; i < 12; i++) {
            x.wed(0, 0, 1, 12);
            x.ends(0, 0, 0);
        }
        x.sheet(3, 1, 2);
        for (int k = 0; k <= 24; k++) {
            DUE.is(32, "write(" + k + ", 3)", x.write(k, 3), 2);
            DUE.is(32, "get(3, 1, 0)", x.get(3, 1, 0), k % 2 == 1 ? 54 : 50);
            DUE.is(32, "get(3, 1, 1)", x.get(3, 1, 1), 60 - 4 * ((k + 1) / 2));
        }
        DUE.is(32, "write(25, 3)", x.write(25, 3), MarriedMap.BAD);
        DUE.is(32, "write(-1, 3)", x.write(-1, 3), MarriedMap.BAD);
    }

    /** A byte has room for 127 hands; 128 to 198 wrap around; shorts and ints have room for all. */
    private static void writesTheLowestBits() {
        for (int width = 126; width <= 130; width++) {
            MarriedMap x = Due.duchy("99;" + (width - 99), "m099;w110");
            x.wed(0, 0, 1, 6);
            for (int form = 0; form < 3; form++) {
                x.sheet(form, form, 2);
                DUE.is(32, "write(1, form)", x.write(1, form), 2);
                int due = form == 0 && width > 127 ? width - 256 : width;
                DUE.is(32, "get(form, form, 0) of " + width, x.get(form, form, 0), due);
                DUE.is(32, "get(form, form, 1)", x.get(form, form, 1), 0);
            }
        }
    }

    /** Promise 32: "BAD; NULL", in this order. */
    private static void writeRefused() {
        int[] events = {0, 3, 24};
        for (int i = 0; i < THREE.length; i++) {
            for (int s : new int[] {0, 3}) {
                REFUSED.outside(THREE[i], "write", 0, 0, events[i], events[i], s);
                REFUSED.outside(THREE[i], "write", 1, 0, 3, events[i], s);
            }
            REFUSED.finding(THREE[i], NULL, "write", 0, 3);
            REFUSED.finding(THREE[i], NULL, "write", events[i], 3);
        }
    }
}
