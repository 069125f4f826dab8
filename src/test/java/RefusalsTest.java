import java.util.Random;

/** Refusals change nothing: an object that never heard the refused calls answers the others alike. */
public final class RefusalsTest {
    private static final Due DUE = new Due("RefusalsTest");
    private static final int RUNS = 1500;
    private static final int CALLS = 200;
    private static final int COUNT = Calls.NAMES.indexOf("count");
    private static final int GET = Calls.NAMES.indexOf("get");
    private static final int LATEST_FINDING = 8;

    public static void main(String[] args) {
        for (int run = 0; run < RUNS; run++) {
            runOne(new Random(-1 - run), run);
        }
        DUE.end();
    }

    private static void runOne(Random random, int run) {
        MarriedMap x = new MarriedMap();
        MarriedMap spared = new MarriedMap();
        Calls calls = new Calls(x);
        Calls sparedCalls = new Calls(spared);
        String lands = Draw.lands(random);
        String people = Draw.people(random, lands);
        for (MarriedMap each : new MarriedMap[] {x, spared}) {
            Due.type(each, 0, lands);
            Due.type(each, 1, people);
        }
        for (int i = 0; i < CALLS; i++) {
            int call = Draw.call(random);
            int[] a = Draw.arguments(random, call, random.nextInt(20));
            if (random.nextInt(3) == 0) {
                a = wild(random);
            }
            int answer = calls.answer(call, a);
            boolean tellsFinding = call == COUNT && a[0] == LATEST_FINDING;
            if (!isRefusal(call, answer) && !tellsFinding) {
                DUE.is(call + 2, "run " + run + ": " + Calls.tell(call, a), answer, sparedCalls.answer(call, a));
            }
        }
        DUE.is(34, "run " + run + ": digest()", x.digest(), spared.digest());
    }

    private static int[] wild(Random random) {
        int[] a = new int[5];
        for (int i = 0; i < a.length; i++) {
            a[i] = random.nextInt(3) == 0 ? random.nextInt() : random.nextInt(70) - 5;
        }
        return a;
    }

    private static boolean isRefusal(int call, int answer) {
        if (call == GET) {
            return answer == Integer.MIN_VALUE;
        }
        return answer == -10002 || answer == -10004 || answer >= -15 && answer <= -2 && !isAnyNumber(call);
    }

    private static boolean isAnyNumber(int call) {
        return Calls.NAMES.get(call).equals("moved") || Calls.NAMES.get(call).equals("lords");
    }
}
