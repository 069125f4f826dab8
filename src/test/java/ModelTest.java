import java.util.ArrayList;
import java.util.Arrays;
import java.util.List;
import java.util.Random;

/** All promises, by runs of calls drawn by a fixed seed: each answer is that of the model. */
public final class ModelTest {
    private static final Due DUE = new Due("ModelTest");
    private static final int RUNS = 1500;
    private static final int CALLS = 220;
    private static final int LONG_RUNS = 200;
    /** As many calls as an object is used for; the last one is digest. */
    private static final int ALL_CALLS = 512;
    private static final int TYPE = Calls.NAMES.indexOf("type");
    private static final int SURVEY = Calls.NAMES.indexOf("survey");
    /** The promise of call 0. */
    private static final int FIRST_PROMISE = 2;

    public static void main(String[] args) {
        for (int run = 0; run < RUNS; run++) {
            runOne(new Random(run), run);
        }
        for (int run = RUNS; run < RUNS + LONG_RUNS; run++) {
            runAll(new Random(run), run);
        }
        DUE.end();
    }

    /** Texts are wiped and typed anew now and then, and events undone, so that there is much to do up to the end. */
    private static void runAll(Random random, int run) {
        MarriedMap x = new MarriedMap();
        Model model = new Model();
        Calls calls = new Calls(x);
        Calls modelCalls = new Calls(model);
        int called = 0;
        while (called < ALL_CALLS - 1) {
            String lands = Draw.lands(random);
            int[][] next = random.nextInt(120) == 0 || called == 0
                    ? typing(lands, Draw.people(random, lands)) : drawn(random, called);
            for (int i = 0; i < next.length && called < ALL_CALLS - 1; i++) {
                compare(run, calls, modelCalls, next[i][0], Arrays.copyOfRange(next[i], 1, 6));
                called++;
            }
        }
        DUE.is(34, "run " + run + ": digest(), call 512", x.digest(), model.digest());
    }

    private static int[][] typing(String lands, String people) {
        List<int[]> calls = new ArrayList<>();
        for (int text = 0; text < 2; text++) {
            calls.add(new int[] {Calls.NAMES.indexOf("wipe"), text, 0, 0, 0, 0});
            for (char b : (text == 0 ? lands : people).toCharArray()) {
                calls.add(new int[] {TYPE, text, b, 0, 0, 0});
            }
        }
        return calls.toArray(new int[0][]);
    }

    private static int[][] drawn(Random random, int called) {
        if (random.nextInt(60) == 0) {
            int[][] undone = new int[random.nextInt(25)][];
            Arrays.fill(undone, new int[] {Calls.NAMES.indexOf("undo"), 0, 0, 0, 0, 0});
            return undone;
        }
        int call = Draw.call(random);
        int[] a = Draw.arguments(random, call, called / 10);
        return new int[][] {{call, a[0], a[1], a[2], a[3], a[4]}};
    }

    private static void runOne(Random random, int run) {
        MarriedMap x = new MarriedMap();
        Model model = new Model();
        Calls calls = new Calls(x);
        Calls modelCalls = new Calls(model);
        String lands = Draw.lands(random);
        String[] texts = {lands, Draw.people(random, lands)};
        for (int text = 0; text < 2; text++) {
            for (int i = 0; i < texts[text].length(); i++) {
                compare(run, calls, modelCalls, TYPE, new int[] {text, texts[text].charAt(i)});
            }
        }
        int week = 0;
        for (int i = 0; i < CALLS; i++) {
            int call = Draw.call(random);
            week = Math.min(51, week + (random.nextInt(4) == 0 ? 1 : 0));
            int[] a = Draw.arguments(random, call, week);
            if (call == SURVEY && random.nextInt(4) != 0) {
                a[2] = Math.max(0, model.width(a[0], a[1]));
            }
            compare(run, calls, modelCalls, call, a);
        }
        DUE.is(34, "run " + run + ": digest()", x.digest(), model.digest());
        DUE.is(33, "run " + run + ": count(8)", x.count(8), model.count(8));
    }

    private static void compare(int run, Calls calls, Calls modelCalls, int call, int[] a) {
        String told = "run " + run + ": " + Calls.tell(call, a);
        DUE.is(call + FIRST_PROMISE, told, calls.answer(call, a), modelCalls.answer(call, a));
    }
}
