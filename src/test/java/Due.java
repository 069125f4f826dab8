/** Compares answers with those that are due, and ends the test with exit code 1 if one differs. */
final class Due {
    private final String test;
    private int asked = 0;
    private int wrong = 0;

    Due(String test) {
        this.test = test;
    }

    /** A promise is broken if an answer is not the one that is due. */
    void is(int promise, String call, long got, long want) {
        asked++;
        if (got != want) {
            wrong++;
            if (wrong <= 50) {
                System.out.println(test + ", promise " + promise + ": " + call + " answered " + got + ", due is " + want);
            }
        }
    }

    void end() {
        System.out.println(test + ": " + asked + " answers, " + wrong + " not as due");
        if (wrong != 0) {
            System.exit(1);
        }
    }

    static void type(MarriedMap x, int text, String typed) {
        for (int i = 0; i < typed.length(); i++) {
            x.type(text, typed.charAt(i));
        }
    }

    static MarriedMap duchy(String lands, String people) {
        MarriedMap x = new MarriedMap();
        type(x, 0, lands);
        type(x, 1, people);
        return x;
    }
}
