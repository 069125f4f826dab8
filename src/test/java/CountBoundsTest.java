import java.math.BigInteger;

/** Promises 33 and 34 at the edges that the document names. */
public final class CountBoundsTest {
    private static final Due DUE = new Due("CountBoundsTest");
    private static final Refused REFUSED = new Refused(DUE);

    public static void main(String[] args) {
        eachFromNoneToAll();
        eachFinding();
        refusalsThatAreNoFindings();
        countRefused();
        countsLeaveAll();
        digestOfNothing();
        digestsThatWrap();
        digestOfThatWidth();
        digestAsItIsTold();
        digestLeavesAll();
        DUE.end();
    }

    private static void is(MarriedMap x, int what, int due) {
        DUE.is(33, "count(" + what + ")", x.count(what), due);
    }

    /** Promise 33: 0 to 7, each from nothing to as many as may be. */
    private static void eachFromNoneToAll() {
        MarriedMap x = new MarriedMap();
        for (int land = 0; land < 6; land++) {
            Due.type(x, 0, land == 0 ? "10" : ";10");
            is(x, 0, land + 1);
            is(x, 2, 3 * land + 2);
        }
        for (int person = 0; person < 12; person++) {
            Due.type(x, 1, person == 0 ? "m011" : ";m011");
            is(x, 1, person + 1);
            is(x, 3, 5 * person + 4);
        }
        for (int event = 1; event <= 24; event++) {
            x.ends(0, event % 2 == 0 ? 0 : 1, event / 2 % 12);
            is(x, 4, event);
            is(x, 5, event / 2);
        }
        for (int i = 1; i <= 8; i++) {
            x.survey(0, 0, 0);
            is(x, 7, i);
        }
        Due.type(x, 0, ";00");
        is(x, 2, 20);
        is(x, 0, 0);
        is(x, 1, 0);
        is(x, 5, 24);
        Due.type(x, 1, ";");
        is(x, 3, 60);
        is(x, 4, 24);
        is(x, 7, 8);
        is(x, 6, 0);
        is(x, 8, 0);
    }

    /** "8 the number of the latest FINDING (0 before any)": each of five behind each other. */
    private static void eachFinding() {
        for (int before = 0; before <= 5; before++) {
            for (int finding = 1; finding <= 5; finding++) {
                MarriedMap x = Situation.SOME.made();
                is(x, 8, 0);
                find(x, before);
                is(x, 8, before);
                DUE.is(33, "the answer of finding " + finding, find(x, finding), -10 - finding);
                is(x, 8, finding);
            }
        }
    }

    private static int find(MarriedMap x, int finding) {
        switch (finding) {
            case 1:
                return x.lose(3);
            case 2:
                return x.lay(0, 0, 4, 0);
            case 3:
                return x.lay(0, 1, 0, 0);
            case 4:
                return x.copy(0, 0, 1, 0, 1);
            case 5:
                return x.sheet(0, 0, -1);
            default:
                return 0;
        }
    }

    /** BAD, NOT and FULL are none, and neither is what is done. */
    private static void refusalsThatAreNoFindings() {
        MarriedMap x = new MarriedMap();
        x.sheet(0, 0, -1);
        x.undo();
        x.type(2, 0);
        x.lose(4);
        x.get(4, 0, 0);
        x.copy(0, 0, 4, 0, 0);
        x.sheet(0, 0, 61);
        x.lords(0, 1, 0);
        x.sheet(0, 0, 1);
        x.lay(0, 0, 0, 1);
        x.get(0, 0, 0);
        x.copy(0, 0, 0, 0, 1);
        x.lose(0);
        for (int i = 0; i < 25; i++) {
            x.ends(0, 0, 0);
            x.survey(0, 0, 0);
        }
        is(x, 8, 5);
    }

    private static void countRefused() {
        REFUSED.outsideEver("count", 0, 0, 8, 0);
        REFUSED.outsideEver("count", 0, 0, 8, 8);
    }

    private static void countsLeaveAll() {
        for (int what = 0; what <= 8; what++) {
            REFUSED.asks(Situation.FULL, "count", what);
        }
    }

    private static void digestOfNothing() {
        BigInteger h = BigInteger.valueOf(17);
        for (int answer : new int[] {0, 0, 0, 0, 0, 0, 0, 0, -1, -1, -1, 0, 0, 0}) {
            h = next(h, answer);
        }
        DUE.is(34, "digest() of nothing", new MarriedMap().digest(), h.longValue());
    }

    private static BigInteger next(BigInteger h, int answer) {
        return h.multiply(BigInteger.valueOf(31)).add(BigInteger.valueOf(answer));
    }

    /** "as longs that wrap": as much as the lowest 64 bits of the number that doesn't. */
    private static void digestsThatWrap() {
        for (Situation in : Situation.values()) {
            MarriedMap x = in.made();
            BigInteger h = unwrapped(x);
            DUE.is(34, "digest() of " + in, x.digest(), h.longValue());
            DUE.is(34, "does it wrap, of " + in, h.bitLength() > 63 ? 1 : 0, 1);
        }
    }

    /** "reach(it, 150), grows(it, 2)": where one hand or one wedding more or less would be another answer. */
    private static void digestOfThatWidth() {
        for (int width = 92; width <= 95; width++) {
            MarriedMap x = Due.duchy(width + ";99", "m090;w110;m020;w110;m020;w110");
            DUE.is(17, "reach(0, 150) of " + width, x.reach(0, 150), width < 94 ? 2 : 1);
            DUE.is(18, "grows(0, 1) of " + width, x.grows(0, 1), width + 56);
            DUE.is(18, "grows(0, 2) of " + width, x.grows(0, 2), width + 63);
            DUE.is(18, "grows(0, 3) of " + width, x.grows(0, 3), width + 70);
            DUE.is(34, "digest() of " + width, x.digest(), unwrapped(x).longValue());
        }
    }

    private static BigInteger unwrapped(MarriedMap x) {
        BigInteger h = BigInteger.valueOf(17);
        int events = x.count(4);
        for (int what = 0; what <= 7; what++) {
            h = next(h, x.count(what));
        }
        h = next(next(next(h, x.fault(0)), x.fault(1)), x.judged());
        for (int event = 0; event < events; event++) {
            h = next(next(h, x.moved(event)), x.without(event, 0));
        }
        for (int land = 0; land < x.count(0); land++) {
            h = next(next(h, x.width(land, events)), x.reach(land, 150));
            h = next(next(h, x.grows(land, 2)), x.blame(land));
            h = next(next(h, x.lords(land, land + 1, 0)), x.lords(land, land + 1, 1));
        }
        for (int person = 0; person < x.count(1); person++) {
            for (int what = 0; what < 4; what++) {
                h = next(h, x.person(person, what));
            }
            h = next(h, x.shadow(person, 6));
            for (int what = 0; what < 3; what++) {
                h = next(h, x.state(person, events, what));
            }
            h = next(h, x.forged(person));
        }
        return next(next(next(h, x.nobody(events)), x.leave()), x.unlike());
    }

    /** Refusals count "as it is told": of lords with no next land, of FULL, and of without() where no land is. */
    private static void digestAsItIsTold() {
        BigInteger h = BigInteger.valueOf(17);
        int[] oneLand = {1, 0, 2, 0, 0, 0, 0, 0, -1, -1, -1, 42, -1, 42, -1, -10002, -10002, 0, 0, 0};
        for (int answer : oneLand) {
            h = next(h, answer);
        }
        DUE.is(34, "digest() of one land", Due.duchy("42", "").digest(), h.longValue());
        MarriedMap events = new MarriedMap();
        events.ends(0, 0, 0);
        h = BigInteger.valueOf(17);
        for (int answer : new int[] {0, 0, 0, 0, 1, 1, 0, 0, -1, -1, 0, 0, -2, 0, 0, 0}) {
            h = next(h, answer);
        }
        DUE.is(34, "digest() of an event without lands", events.digest(), h.longValue());
        MarriedMap five = Due.duchy("50;40", "m011;m011;m011;m011;m011");
        h = BigInteger.valueOf(17);
        for (int answer : new int[] {2, 5, 5, 24, 0, 0, 0, 0, -1, -1, -1, 50, -1, 50, -1, -10004, -10004,
            40, -1, 40, -1, -10002, -10002}) {
            h = next(h, answer);
        }
        for (int person = 0; person < 5; person++) {
            for (int answer : new int[] {0, 0, 1, 1, 14, -1, 0, 1, 511}) {
                h = next(h, answer);
            }
        }
        for (int answer : new int[] {0, 0, 0}) {
            h = next(h, answer);
        }
        DUE.is(34, "digest() of five in a land", five.digest(), h.longValue());
    }

    private static void digestLeavesAll() {
        for (Situation in : Situation.values()) {
            MarriedMap x = in.made();
            long first = x.digest();
            DUE.is(34, "digest() again, of " + in, x.digest(), first);
            DUE.is(34, "all behind digest(), of " + in, Whole.of(x).equals(Whole.of(in.made())) ? 1 : 0, 1);
        }
    }
}
