/** Promises 1 to 7. */
public final class LandsAndPeopleTest {
    private static final Due DUE = new Due("LandsAndPeopleTest");
    private static final int[] FAR = {Integer.MIN_VALUE, -1000, -1, 1000, Integer.MAX_VALUE};

    public static void main(String[] args) {
        newObject();
        typing();
        wiping();
        faultsOfLands();
        faultsOfPeople();
        persons();
        shadows();
        clouds();
        DUE.end();
    }

    private static void newObject() {
        MarriedMap x = new MarriedMap();
        for (int what = 0; what <= 8; what++) {
            DUE.is(1, "count(" + what + ")", x.count(what), 0);
        }
        DUE.is(1, "fault(0)", x.fault(0), MarriedMap.NONE);
        DUE.is(1, "fault(1)", x.fault(1), MarriedMap.NONE);
        for (int s = 0; s < 4; s++) {
            DUE.is(1, "lose(" + s + ")", x.lose(s), -11);
        }
    }

    private static void typing() {
        MarriedMap x = new MarriedMap();
        for (int i = 1; i <= 20; i++) {
            DUE.is(2, "type(0, 255)", x.type(0, 255), i);
        }
        DUE.is(2, "type(0, 255)", x.type(0, 255), MarriedMap.FULL);
        DUE.is(2, "type(0, 256)", x.type(0, 256), MarriedMap.BAD);
        DUE.is(2, "count(2)", x.count(2), 20);
        for (int i = 1; i <= 60; i++) {
            DUE.is(2, "type(1, 0)", x.type(1, 0), i);
        }
        DUE.is(2, "type(1, 0)", x.type(1, 0), MarriedMap.FULL);
        DUE.is(2, "type(1, -1)", x.type(1, -1), MarriedMap.BAD);
        DUE.is(2, "type(2, 0)", x.type(2, 0), MarriedMap.BAD);
        DUE.is(2, "count(3)", x.count(3), 60);
        for (int far : FAR) {
            DUE.is(2, "type(" + far + ", 48)", new MarriedMap().type(far, 48), MarriedMap.BAD);
            DUE.is(2, "type(0, " + far + ")", new MarriedMap().type(0, far), MarriedMap.BAD);
        }
    }

    private static void wiping() {
        MarriedMap x = Due.duchy("10;20", "m011");
        DUE.is(3, "wipe(2)", x.wipe(2), MarriedMap.BAD);
        DUE.is(3, "wipe(-1)", x.wipe(-1), MarriedMap.BAD);
        DUE.is(3, "wipe(1)", x.wipe(1), 4);
        DUE.is(3, "wipe(1)", x.wipe(1), 0);
        DUE.is(3, "count(1)", x.count(1), 0);
        DUE.is(3, "count(0)", x.count(0), 2);
        DUE.is(3, "wipe(0)", x.wipe(0), 5);
        DUE.is(3, "count(0)", x.count(0), 0);
        DUE.is(3, "type(0, 48)", x.type(0, 48), 1);
    }

    private static void faultsOfLands() {
        landFault("", -1, 0);
        landFault("1", 1, 0);
        landFault("12", -1, 1);
        landFault("123", 2, 0);
        landFault("12;", 3, 0);
        landFault("12;3", 4, 0);
        landFault("12;34", -1, 2);
        landFault(";", 0, 0);
        landFault("1;", 1, 0);
        landFault("12,34", 2, 0);
        landFault("12;;4", 3, 0);
        landFault("/0", 0, 0);
        landFault(":0", 0, 0);
        landFault("0/", 1, 0);
        landFault("0:", 1, 0);
        landFault("00;00;00;00;00;00", -1, 6);
        landFault("00;00;00;00;00;00;", 18, 0);
        landFault("00;00;00;00;00;00;00", 18, 0);
        landFault("00;00;00;00;00;00x00", 17, 0);
        DUE.is(4, "fault(2)", new MarriedMap().fault(2), MarriedMap.BAD);
        DUE.is(4, "fault(-1)", new MarriedMap().fault(-1), MarriedMap.BAD);
        MarriedMap x = Due.duchy("07;70", "");
        DUE.is(14, "width(0, 0)", x.width(0, 0), 7);
        DUE.is(14, "width(1, 0)", x.width(1, 0), 70);
    }

    private static void landFault(String lands, int fault, int number) {
        MarriedMap x = Due.duchy(lands, "");
        DUE.is(4, "fault(0) of " + lands, x.fault(0), fault);
        DUE.is(4, "count(0) of " + lands, x.count(0), number);
    }

    private static void faultsOfPeople() {
        peopleFault("", -1, 0);
        peopleFault("m", 1, 0);
        peopleFault("x", 0, 0);
        peopleFault("M011", 0, 0);
        peopleFault("m2", 1, 0);
        peopleFault("m2x", 1, 0);
        peopleFault("mm", 1, 0);
        peopleFault("m:11", 1, 0);
        peopleFault("m0", 2, 0);
        peopleFault("m00", 2, 0);
        peopleFault("m01", 3, 0);
        peopleFault("m01;", 3, 0);
        peopleFault("m010", -1, 1);
        peopleFault("w199", -1, 1);
        peopleFault("w199w", 4, 0);
        peopleFault("w199;", 5, 0);
        peopleFault("w199;m", 6, 0);
        peopleFault("w199;m211", 6, 0);
        peopleFault("w199;m111", -1, 2);
        String twelve = "m011;".repeat(12);
        peopleFault(twelve.substring(0, 59), -1, 12);
        peopleFault(twelve, 60, 0);
        MarriedMap x = Due.duchy("10", "m011;w111");
        DUE.is(4, "fault(1) with one land", x.fault(1), 6);
        Due.type(x, 0, ";20");
        DUE.is(4, "fault(1) with two lands", x.fault(1), -1);
        DUE.is(4, "count(1) with two lands", x.count(1), 2);
        x.type(0, ';');
        DUE.is(4, "fault(1) with a fault of lands", x.fault(1), 1);
        DUE.is(4, "count(1) with a fault of lands", x.count(1), 0);
        x.wipe(0);
        DUE.is(4, "fault(1) without lands", x.fault(1), 1);
    }

    private static void peopleFault(String people, int fault, int number) {
        MarriedMap x = Due.duchy("10;20", people);
        DUE.is(4, "fault(1) of " + people, x.fault(1), fault);
        DUE.is(4, "count(1) of " + people, x.count(1), number);
    }

    private static void persons() {
        MarriedMap x = Due.duchy("10;20;30", "m019;w290");
        int[][] want = {{0, 0, 1, 9}, {1, 2, 9, 0}};
        for (int person = 0; person < 2; person++) {
            for (int what = 0; what < 4; what++) {
                DUE.is(5, "person(" + person + ", " + what + ")", x.person(person, what), want[person][what]);
            }
        }
        DUE.is(5, "person(2, 0)", x.person(2, 0), MarriedMap.BAD);
        DUE.is(5, "person(0, 4)", x.person(0, 4), MarriedMap.BAD);
        for (int far : FAR) {
            DUE.is(5, "person(" + far + ", 0)", x.person(far, 0), MarriedMap.BAD);
            DUE.is(5, "person(0, " + far + ")", x.person(0, far), MarriedMap.BAD);
        }
        x.type(1, ';');
        DUE.is(5, "person(0, 0) with a fault", x.person(0, 0), MarriedMap.BAD);
    }

    private static void shadows() {
        MarriedMap x = Due.duchy("10;20", "m052;w199");
        for (int hour = 6; hour <= 18; hour++) {
            int times = hour < 12 ? 13 - hour : hour - 11;
            DUE.is(6, "shadow(0, " + hour + ")", x.shadow(0, hour), 7 * times);
            DUE.is(6, "shadow(1, " + hour + ")", x.shadow(1, hour), 18 * times);
        }
        for (int week = 0; week < 52; week++) {
            x.cloud(week, 1);
        }
        DUE.is(6, "shadow(0, 6), clouds or not", x.shadow(0, 6), 49);
        DUE.is(6, "shadow(0, 5)", x.shadow(0, 5), MarriedMap.BAD);
        DUE.is(6, "shadow(0, 19)", x.shadow(0, 19), MarriedMap.BAD);
        DUE.is(6, "shadow(2, 12)", x.shadow(2, 12), MarriedMap.BAD);
        for (int far : FAR) {
            DUE.is(6, "shadow(" + far + ", 12)", x.shadow(far, 12), MarriedMap.BAD);
            DUE.is(6, "shadow(0, " + far + ")", x.shadow(0, far), MarriedMap.BAD);
        }
    }

    private static void clouds() {
        MarriedMap x = new MarriedMap();
        DUE.is(7, "cloud(0, 1)", x.cloud(0, 1), 0);
        DUE.is(7, "cloud(0, 1)", x.cloud(0, 1), 1);
        DUE.is(7, "cloud(51, 1)", x.cloud(51, 1), 0);
        DUE.is(7, "cloud(51, 1)", x.cloud(51, 1), 1);
        DUE.is(7, "count(6)", x.count(6), 2);
        DUE.is(7, "cloud(0, 0)", x.cloud(0, 0), 1);
        DUE.is(7, "cloud(0, 0)", x.cloud(0, 0), 0);
        DUE.is(7, "cloud(51, 2)", x.cloud(51, 2), MarriedMap.BAD);
        DUE.is(7, "cloud(51, -1)", x.cloud(51, -1), MarriedMap.BAD);
        DUE.is(7, "cloud(52, 0)", x.cloud(52, 0), MarriedMap.BAD);
        DUE.is(7, "cloud(-1, 0)", x.cloud(-1, 0), MarriedMap.BAD);
        DUE.is(7, "count(6)", x.count(6), 1);
        for (int far : FAR) {
            DUE.is(7, "cloud(" + far + ", 0)", x.cloud(far, 0), MarriedMap.BAD);
            DUE.is(7, "cloud(0, " + far + ")", x.cloud(0, far), MarriedMap.BAD);
        }
    }
}
