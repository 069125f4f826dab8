/** Promises 33 and 34. */
public final class CountAndDigestTest {
    private static final Due DUE = new Due("CountAndDigestTest");

    public static void main(String[] args) {
        counts();
        latestFinding();
        emptyDigest();
        digests();
        digestsOfMuch();
        DUE.end();
    }

    /** Of each count another number, so that none can stand for another. */
    private static MarriedMap duchy() {
        MarriedMap x = Due.duchy("50;40;30", "m052;w130;m163;w220;w081");
        x.wed(1, 0, 1, 13);
        x.wed(2, 2, 3, 6);
        x.wed(2, 4, 2, 6);
        x.ends(3, 0, 4);
        x.ends(3, 0, 0);
        x.ends(4, 1, 3);
        x.cloud(9, 1);
        x.survey(0, 1, 58);
        x.survey(1, 1, 58);
        x.survey(5, 1, 58);
        x.survey(5, 24, 58);
        return x;
    }

    private static void counts() {
        MarriedMap x = duchy();
        int[] want = {3, 5, 8, 24, 6, 2, 1, 4, 0};
        for (int what = 0; what < want.length; what++) {
            DUE.is(33, "count(" + what + ")", x.count(what), want[what]);
        }
        for (int wrong : new int[] {Integer.MIN_VALUE, -1, 9, Integer.MAX_VALUE}) {
            DUE.is(33, "count(" + wrong + ")", x.count(wrong), MarriedMap.BAD);
        }
        x.type(1, ';');
        DUE.is(33, "count(1) with a fault", x.count(1), 0);
        DUE.is(33, "count(3) with a fault", x.count(3), 25);
        DUE.is(33, "count(5) with a fault", x.count(5), 6);
    }

    private static void latestFinding() {
        MarriedMap x = new MarriedMap();
        x.lose(7);
        DUE.is(33, "count(8) behind BAD", x.count(8), 0);
        x.lose(0);
        DUE.is(33, "count(8) behind NULL", x.count(8), 1);
        x.sheet(0, 0, -1);
        DUE.is(33, "count(8) behind SIZE", x.count(8), 5);
        x.sheet(0, 0, 1);
        x.undo();
        x.lose(7);
        DUE.is(33, "count(8) stays", x.count(8), 5);
    }

    /** Behind 17 come eight counts of 0, three of NONE, and three of 0. */
    private static void emptyDigest() {
        long h = 17;
        for (int answer : new int[] {0, 0, 0, 0, 0, 0, 0, 0, -1, -1, -1, 0, 0, 0}) {
            h = 31 * h + answer;
        }
        DUE.is(34, "digest() of a new one", new MarriedMap().digest(), h);
    }

    private static void digests() {
        MarriedMap x = duchy();
        long before = x.digest();
        DUE.is(34, "digest() again", x.digest(), before);
        DUE.is(34, "digest()", before, ofAnswers(x));
        x.sheet(0, 0, -1);
        DUE.is(34, "digest() doesn't tell findings", x.digest(), before);
        x.type(0, ';');
        DUE.is(34, "digest() with a fault", x.digest(), ofAnswers(x));
        DUE.is(34, "digest() changes", x.digest() == before ? 1 : 0, 0);
    }

    /** A duchy of which no answer is like another one that the digest might ask for in its place. */
    private static void digestsOfMuch() {
        MarriedMap x = Due.duchy("80;90", "m090;m030;m020;w110;w110;w110;m030;w160;m050;w120");
        x.wed(0, 6, 7, 12);
        x.wed(0, 8, 9, 12);
        x.wed(0, 2, 3, 12);
        x.ends(0, 0, 2);
        x.survey(0, 2, 80);
        x.survey(5, 0, 0);
        DUE.is(17, "reach(0, 149)", x.reach(0, 149), 2);
        DUE.is(17, "reach(0, 150)", x.reach(0, 150), 2);
        DUE.is(17, "reach(0, 151)", x.reach(0, 151), 3);
        DUE.is(18, "grows(0, 1)", x.grows(0, 1), 136);
        DUE.is(18, "grows(0, 2)", x.grows(0, 2), 150);
        DUE.is(18, "grows(0, 3)", x.grows(0, 3), 157);
        DUE.is(19, "leave()", x.leave(), 1);
        DUE.is(22, "forged(6)", x.forged(6), 1 << 2);
        DUE.is(16, "nobody(4)", x.nobody(4), 1);
        DUE.is(23, "unlike()", x.unlike(), 1);
        DUE.is(34, "digest()", x.digest(), ofAnswers(x));
    }

    static long ofAnswers(MarriedMap x) {
        int events = x.count(4);
        long h = 17;
        for (int what = 0; what <= 7; what++) {
            h = 31 * h + x.count(what);
        }
        h = (31 * h + x.fault(0)) * 31 + x.fault(1);
        h = 31 * h + x.judged();
        for (int event = 0; event < events; event++) {
            h = (31 * h + x.moved(event)) * 31 + x.without(event, 0);
        }
        for (int land = 0; land < x.count(0); land++) {
            h = (31 * h + x.width(land, events)) * 31 + x.reach(land, 150);
            h = (31 * h + x.grows(land, 2)) * 31 + x.blame(land);
            h = (31 * h + x.lords(land, land + 1, 0)) * 31 + x.lords(land, land + 1, 1);
        }
        for (int person = 0; person < x.count(1); person++) {
            h = (31 * h + x.person(person, 0)) * 31 + x.person(person, 1);
            h = (31 * h + x.person(person, 2)) * 31 + x.person(person, 3);
            h = (31 * h + x.shadow(person, 6)) * 31 + x.state(person, events, 0);
            h = (31 * h + x.state(person, events, 1)) * 31 + x.state(person, events, 2);
            h = 31 * h + x.forged(person);
        }
        h = 31 * h + x.nobody(events);
        return (31 * h + x.leave()) * 31 + x.unlike();
    }
}
