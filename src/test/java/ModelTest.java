import java.util.Random;

/** All promises, by runs of calls drawn by a fixed seed: each answer is that of the model. */
public final class ModelTest {
    private static final Due DUE = new Due("ModelTest");
    private static final int RUNS = 1500;
    private static final int CALLS = 220;
    private static final int TYPE = Calls.NAMES.indexOf("type");
    private static final int SURVEY = Calls.NAMES.indexOf("survey");
    /** The promise of call 0. */
    private static final int FIRST_PROMISE = 2;

    public static void main(String[] args) {
        for (int run = 0; run < RUNS; run++) {
            runOne(new Random(run), run);
        }
        DUE.end();
    }

    private static void runOne(Random random, int run) {
        MarriedMap x = new MarriedMap();
        Model model = new Model();
        Calls calls = new Calls(x);
        Calls modelCalls = new Calls(model);
        String lands = Draw.lands(random);
        String[] texts = {lands, Draw.people(random, lands)};
        for (int text = 0; text < 2; text++) {
            for (int i = 0; i < texts[text].length(); i++) {
                compare(run, calls, modelCalls, TYPE, new int[] {text, texts[text].charAt(i)});
            }
        }
        int week = 0;
        for (int i = 0; i < CALLS; i++) {
            int call = Draw.call(random);
            week = Math.min(51, week + (random.nextInt(4) == 0 ? 1 : 0));
            int[] a = Draw.arguments(random, call, week);
            if (call == SURVEY && random.nextInt(4) != 0) {
                a[2] = Math.max(0, model.width(a[0], a[1]));
            }
            compare(run, calls, modelCalls, call, a);
        }
        DUE.is(34, "run " + run + ": digest()", x.digest(), CountAndDigestTest.ofAnswers(x));
        DUE.is(33, "run " + run + ": count(8)", x.count(8), model.count(8));
    }

    private static void compare(int run, Calls calls, Calls modelCalls, int call, int[] a) {
        String told = "run " + run + ": " + Calls.tell(call, a);
        DUE.is(call + FIRST_PROMISE, told, calls.answer(call, a), modelCalls.answer(call, a));
    }
}
