/** Promises 27 to 32. */
public final class SheetsTest {
    private static final Due DUE = new Due("SheetsTest");
    private static final int[] FAR = {Integer.MIN_VALUE, -1000, -1, 1000, Integer.MAX_VALUE};
    private static final int LEAST = Integer.MIN_VALUE;

    public static void main(String[] args) {
        made();
        lost();
        laid();
        got();
        copied();
        written();
        DUE.end();
    }

    private static void finding(int promise, MarriedMap x, String call, int got, int number) {
        DUE.is(promise, call, got, -10 - number);
        DUE.is(promise, "count(8) behind " + call, x.count(8), number);
    }

    private static void made() {
        MarriedMap x = new MarriedMap();
        DUE.is(27, "sheet(4, 0, 1)", x.sheet(4, 0, 1), MarriedMap.BAD);
        DUE.is(27, "sheet(0, 3, 1)", x.sheet(0, 3, 1), MarriedMap.BAD);
        DUE.is(27, "sheet(0, 0, 61)", x.sheet(0, 0, 61), MarriedMap.BAD);
        DUE.is(27, "sheet(4, 0, -1)", x.sheet(4, 0, -1), MarriedMap.BAD);
        DUE.is(27, "sheet(0, 3, -1)", x.sheet(0, 3, -1), MarriedMap.BAD);
        DUE.is(27, "count(8)", x.count(8), 0);
        finding(27, x, "sheet(0, 0, -1)", x.sheet(0, 0, -1), 5);
        finding(27, x, "sheet(0, 0, least)", x.sheet(0, 0, LEAST), 5);
        DUE.is(27, "sheet(0, 0, most)", x.sheet(0, 0, Integer.MAX_VALUE), MarriedMap.BAD);
        for (int far : FAR) {
            DUE.is(27, "sheet(" + far + ", 0, 1)", x.sheet(far, 0, 1), MarriedMap.BAD);
            DUE.is(27, "sheet(0, " + far + ", 1)", x.sheet(0, far, 1), MarriedMap.BAD);
        }
        finding(27, x, "lose(0): none was made", x.lose(0), 1);
        for (int form = 0; form < 3; form++) {
            DUE.is(27, "sheet(3, form, 60)", x.sheet(3, form, 60), 60);
            DUE.is(27, "get(3, form, 59)", x.get(3, form, 59), 0);
            x.lay(3, form, 59, 7);
            x.lay(3, form, 0, 7);
            DUE.is(27, "sheet(3, form, 0)", x.sheet(3, form, 0), 0);
            DUE.is(27, "lay(3, form, 0, 1)", x.lay(3, form, 0, 1), -12);
            DUE.is(27, "sheet(3, form, 60)", x.sheet(3, form, 60), 60);
            DUE.is(27, "get(3, form, 59) of a new row", x.get(3, form, 59), 0);
            DUE.is(27, "get(3, form, 0) of a new row", x.get(3, form, 0), 0);
        }
        DUE.is(27, "sheet(3, 0, -1): the row stays", x.sheet(3, 0, -1), -15);
        DUE.is(27, "lose(3)", x.lose(3), 60);
    }

    private static void lost() {
        MarriedMap x = new MarriedMap();
        DUE.is(28, "lose(4)", x.lose(4), MarriedMap.BAD);
        finding(28, x, "lose(0)", x.lose(0), 1);
        for (int far : FAR) {
            DUE.is(28, "lose(" + far + ")", x.lose(far), MarriedMap.BAD);
        }
        for (int s = 0; s < 4; s++) {
            x.sheet(s, 0, s);
        }
        for (int s = 0; s < 4; s++) {
            DUE.is(28, "lose(" + s + ")", x.lose(s), s);
            DUE.is(28, "lose(" + s + ")", x.lose(s), -11);
        }
    }

    private static void laid() {
        MarriedMap x = new MarriedMap();
        finding(29, x, "lay(0, 0, 0, 0)", x.lay(0, 0, 0, 0), 1);
        int[] values = {0, 1, -1, 127, 128, 255, 256, -128, -129, 32767, 32768, 65535, 65536, -32769,
            Integer.MAX_VALUE, Integer.MIN_VALUE};
        for (int form = 0; form < 3; form++) {
            x.sheet(form, form, 2);
            for (int v : values) {
                int want = form == 0 ? (byte) v : form == 1 ? (short) v : v;
                DUE.is(29, "lay(form, form, 1, " + v + ")", x.lay(form, form, 1, v), 1);
                DUE.is(29, "get(form, form, 1) of " + v, x.get(form, form, 1), want);
                DUE.is(29, "get(form, form, 0)", x.get(form, form, 0), 0);
            }
        }
        finding(29, x, "lay(0, 1, 0, 0)", x.lay(0, 1, 0, 0), 3);
        finding(29, x, "lay(0, 0, 2, 0)", x.lay(0, 0, 2, 0), 2);
        finding(29, x, "lay(0, 0, -1, 0)", x.lay(0, 0, -1, 0), 2);
        finding(29, x, "lay(0, 1, 2, 0)", x.lay(0, 1, 2, 0), 3);
        finding(29, x, "lay(3, 1, 9, 0)", x.lay(3, 1, 9, 0), 1);
        DUE.is(29, "lay(4, 0, 0, 0)", x.lay(4, 0, 0, 0), MarriedMap.BAD);
        DUE.is(29, "lay(3, 3, 0, 0)", x.lay(3, 3, 0, 0), MarriedMap.BAD);
        DUE.is(29, "lay(3, -1, 0, 0)", x.lay(3, -1, 0, 0), MarriedMap.BAD);
        for (int far : FAR) {
            DUE.is(29, "lay(" + far + ", 0, 0, 0)", x.lay(far, 0, 0, 0), MarriedMap.BAD);
            DUE.is(29, "lay(0, " + far + ", 0, 0)", x.lay(0, far, 0, 0), MarriedMap.BAD);
            DUE.is(29, "lay(0, 0, " + far + ", 0)", x.lay(0, 0, far, 0), -12);
        }
    }

    private static void got() {
        MarriedMap x = new MarriedMap();
        DUE.is(30, "get(4, 0, 0)", x.get(4, 0, 0), LEAST);
        DUE.is(30, "get(0, 3, 0)", x.get(0, 3, 0), LEAST);
        DUE.is(30, "count(8)", x.count(8), 0);
        DUE.is(30, "get(0, 0, 0)", x.get(0, 0, 0), LEAST);
        DUE.is(30, "count(8)", x.count(8), 1);
        x.sheet(0, 1, 3);
        x.lay(0, 1, 2, 77);
        DUE.is(30, "get(0, 1, 2)", x.get(0, 1, 2), 77);
        DUE.is(30, "count(8)", x.count(8), 1);
        DUE.is(30, "get(0, 1, 3)", x.get(0, 1, 3), LEAST);
        DUE.is(30, "count(8)", x.count(8), 2);
        DUE.is(30, "get(0, 2, 3)", x.get(0, 2, 3), LEAST);
        DUE.is(30, "count(8)", x.count(8), 3);
        DUE.is(30, "get(0, 1, -1)", x.get(0, 1, -1), LEAST);
        DUE.is(30, "count(8)", x.count(8), 2);
        for (int far : FAR) {
            DUE.is(30, "get(" + far + ", 1, 0)", x.get(far, 1, 0), LEAST);
            DUE.is(30, "get(0, " + far + ", 0)", x.get(0, far, 0), LEAST);
            DUE.is(30, "get(0, 1, " + far + ")", x.get(0, 1, far), LEAST);
        }
    }

    private static MarriedMap rows() {
        MarriedMap x = new MarriedMap();
        x.sheet(0, 1, 5);
        x.sheet(1, 1, 4);
        x.sheet(2, 2, 5);
        for (int i = 0; i < 5; i++) {
            x.lay(0, 1, i, i + 1);
        }
        return x;
    }

    private static void items(MarriedMap x, int s, int... want) {
        for (int i = 0; i < want.length; i++) {
            DUE.is(31, "get(" + s + ", 1, " + i + ")", x.get(s, 1, i), want[i]);
        }
    }

    private static void copied() {
        MarriedMap x = rows();
        DUE.is(31, "copy(0, 1, 1, 0, 3)", x.copy(0, 1, 1, 0, 3), 1);
        items(x, 1, 2, 3, 4, 0);
        items(x, 0, 1, 2, 3, 4, 5);
        DUE.is(31, "copy(0, 0, 0, 1, 4)", x.copy(0, 0, 0, 1, 4), 1);
        items(x, 0, 1, 1, 2, 3, 4);
        DUE.is(31, "copy(0, 1, 0, 0, 4)", x.copy(0, 1, 0, 0, 4), 1);
        items(x, 0, 1, 2, 3, 4, 4);
        DUE.is(31, "copy(0, 5, 1, 4, 0)", x.copy(0, 5, 1, 4, 0), 1);
        DUE.is(31, "count(8)", x.count(8), 0);
        finding(31, x, "copy(0, 6, 1, 0, 0)", x.copy(0, 6, 1, 0, 0), 2);
        finding(31, x, "copy(0, 0, 2, 0, 1)", x.copy(0, 0, 2, 0, 1), 4);
        finding(31, x, "copy(0, 0, 1, 5, 0)", x.copy(0, 0, 1, 5, 0), 2);
        finding(31, x, "copy(0, 9, 2, 0, 1)", x.copy(0, 9, 2, 0, 1), 4);
        finding(31, x, "copy(0, 0, 1, 0, 5)", x.copy(0, 0, 1, 0, 5), 2);
        finding(31, x, "copy(1, 0, 3, 0, 1)", x.copy(1, 0, 3, 0, 1), 1);
        finding(31, x, "copy(0, 2, 1, 0, 4)", x.copy(0, 2, 1, 0, 4), 2);
        finding(31, x, "copy(3, 0, 2, 9, 1)", x.copy(3, 0, 2, 9, 1), 1);
        for (int[] w : new int[][] {{-1, 0, 1}, {0, -1, 1}, {0, 0, -1}, {5, 0, 1}, {0, 4, 1}}) {
            DUE.is(31, "copy(0, .., 1, ..)", x.copy(0, w[0], 1, w[1], w[2]), -12);
        }
        for (int far : FAR) {
            DUE.is(31, "copy(" + far + ", 0, 1, 0, 1)", x.copy(far, 0, 1, 0, 1), MarriedMap.BAD);
            DUE.is(31, "copy(0, 0, " + far + ", 0, 1)", x.copy(0, 0, far, 0, 1), MarriedMap.BAD);
            DUE.is(31, "copy(0, " + far + ", 1, 0, 1)", x.copy(0, far, 1, 0, 1), -12);
            DUE.is(31, "copy(0, 0, 1, " + far + ", 1)", x.copy(0, 0, 1, far, 1), -12);
            DUE.is(31, "copy(0, 0, 1, 0, " + far + ")", x.copy(0, 0, 1, 0, far), -12);
        }
        DUE.is(31, "copy(0, most, 1, most, most)",
                x.copy(0, Integer.MAX_VALUE, 1, Integer.MAX_VALUE, Integer.MAX_VALUE), -12);
        DUE.is(31, "copy(3, 0, 4, 0, 1)", x.copy(3, 0, 4, 0, 1), MarriedMap.BAD);
        DUE.is(31, "copy(4, 0, 3, 0, 1)", x.copy(4, 0, 3, 0, 1), MarriedMap.BAD);
        items(x, 1, 2, 3, 4, 0);
    }

    private static void written() {
        MarriedMap x = Due.duchy("99;70;99", "m099;w110;m299;w110");
        x.wed(0, 0, 1, 6);
        finding(32, x, "write(0, 0)", x.write(0, 0), 1);
        DUE.is(32, "write(2, 0)", x.write(2, 0), MarriedMap.BAD);
        DUE.is(32, "write(-1, 0)", x.write(-1, 0), MarriedMap.BAD);
        DUE.is(32, "write(0, 4)", x.write(0, 4), MarriedMap.BAD);
        x.sheet(0, 2, 5);
        x.lay(0, 2, 3, 8);
        DUE.is(32, "write(0, 0)", x.write(0, 0), 3);
        int[] want = {99, 70, 99, 8, 0};
        for (int i = 0; i < 5; i++) {
            DUE.is(32, "get(0, 2, " + i + ")", x.get(0, 2, i), want[i]);
        }
        DUE.is(32, "write(1, 0)", x.write(1, 0), 3);
        DUE.is(32, "get(0, 2, 0)", x.get(0, 2, 0), 169);
        DUE.is(32, "get(0, 2, 1)", x.get(0, 2, 1), 0);
        x.sheet(1, 0, 2);
        DUE.is(32, "write(1, 1)", x.write(1, 1), 2);
        DUE.is(32, "get(1, 0, 0), the lowest bits", x.get(1, 0, 0), 169 - 256);
        x.sheet(1, 1, 0);
        DUE.is(32, "write(1, 1) of no items", x.write(1, 1), 0);
        x.wipe(0);
        DUE.is(32, "write(1, 0) without lands", x.write(1, 0), 0);
        DUE.is(32, "get(0, 2, 0): as it was", x.get(0, 2, 0), 169);
        for (int far : FAR) {
            DUE.is(32, "write(" + far + ", 0)", x.write(far, 0), MarriedMap.BAD);
            DUE.is(32, "write(0, " + far + ")", x.write(0, far), MarriedMap.BAD);
        }
    }
}
