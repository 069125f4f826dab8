import java.util.EnumMap;
import java.util.List;
import java.util.Map;

/** Calls that are refused: what they answer, and that they leave all as it was. */
final class Refused {
    static final int LEAST = Integer.MIN_VALUE;
    private static final int NO_FINDING = 0;
    private static final int FIRST_PROMISE = 2;

    private final Due due;
    private final Map<Situation, List<Long>> before = new EnumMap<>(Situation.class);

    Refused(Due due) {
        this.due = due;
    }

    /** A number below the least or above the most that may be, however near it is or whatever its lowest bits are. */
    void outside(Situation in, String call, int at, int least, int most, int... a) {
        int right = a[at];
        int[] wrong = {least - 1, most + 1, Integer.MIN_VALUE, Integer.MAX_VALUE,
            right + 256, right - 256, right + 65536, right - 65536, -1 - right};
        for (int w : wrong) {
            if (w < least || w > most) {
                int[] told = a.clone();
                told[at] = w;
                bad(in, call, told);
            }
        }
    }

    /** As outside, where the bounds are the same whatever there is. */
    void outsideEver(String call, int at, int least, int most, int... a) {
        outside(Situation.NOTHING, call, at, least, most, a);
        outside(Situation.SOME, call, at, least, most, a);
        outside(Situation.FULL, call, at, least, most, a);
    }

    void bad(Situation in, String call, int... a) {
        is(in, call, badOf(call), NO_FINDING, a);
    }

    void full(Situation in, String call, int... a) {
        is(in, call, call.equals("lords") ? -10004 : MarriedMap.FULL, NO_FINDING, a);
    }

    void finding(Situation in, int finding, String call, int... a) {
        is(in, call, call.equals("get") ? LEAST : -10 - finding, finding, a);
    }

    void not(Situation in, String call) {
        is(in, call, MarriedMap.NOT, NO_FINDING);
    }

    /** A call that only asks: it isn't refused, and leaves all as it was. */
    void asks(Situation in, String call, int... a) {
        int number = Calls.NAMES.indexOf(call);
        MarriedMap x = in.made();
        new Calls(x).answer(number, a);
        leaves(in, x, number + FIRST_PROMISE, in + ": " + Calls.tell(number, a), NO_FINDING);
    }

    private static int badOf(String call) {
        if (call.equals("get")) {
            return LEAST;
        }
        return call.equals("moved") || call.equals("lords") ? -10002 : MarriedMap.BAD;
    }

    private void is(Situation in, String call, int answer, int finding, int... a) {
        int number = Calls.NAMES.indexOf(call);
        int promise = number + FIRST_PROMISE;
        String told = in + ": " + Calls.tell(number, a);
        MarriedMap x = in.made();
        due.is(promise, told, new Calls(x).answer(number, a), answer);
        leaves(in, x, promise, told, finding);
    }

    private void leaves(Situation in, MarriedMap x, int promise, String told, int finding) {
        List<Long> was = before.computeIfAbsent(in, i -> Whole.of(i.made()));
        List<Long> left = Whole.of(x);
        due.is(promise, told + " leaves as many answers", left.size(), was.size());
        for (int i = 0; i < Math.min(was.size(), left.size()); i++) {
            boolean isFinding = i == Whole.FINDING && finding != NO_FINDING;
            due.is(promise, told + " leaves answer " + i, left.get(i), isFinding ? finding : was.get(i));
        }
    }
}
