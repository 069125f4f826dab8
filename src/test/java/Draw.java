import java.util.Random;

/** Draws texts, calls and arguments: mostly such as do something, now and then anything. */
final class Draw {
    private static final int[] FAR = {Integer.MIN_VALUE, Integer.MIN_VALUE + 1, -10001, -1, 1000, 65536,
        Integer.MAX_VALUE - 1, Integer.MAX_VALUE};
    /** How often each call is drawn, as Calls numbers them. */
    private static final int[] OFTEN = {1, 1, 3, 2, 2, 3, 30, 10, 3,
        6, 3, 4, 6, 6, 3, 3, 3, 3, 6, 1,
        4, 3, 4, 3, 5, 4, 1, 12, 4, 4, 3, 3};

    private Draw() { }

    static String lands(Random random) {
        int number = random.nextInt(20) == 0 ? random.nextInt(8) : 2 + random.nextInt(4);
        return landsOf(random, number, random.nextBoolean() ? 100 : 30);
    }

    static String landsOf(Random random, int number, int widest) {
        StringBuilder text = new StringBuilder();
        for (int land = 0; land < number; land++) {
            int width = random.nextInt(widest);
            text.append(land == 0 ? "" : ";").append(width / 10).append(width % 10);
        }
        return text.toString();
    }

    static String people(Random random, String lands) {
        StringBuilder text = new StringBuilder();
        int landNumber = Math.max(1, (lands.length() + 1) / 3);
        int number = random.nextInt(20) == 0 ? 13 : random.nextInt(9);
        for (int person = 0; person < number; person++) {
            text.append(person == 0 ? "" : ";").append(random.nextBoolean() ? 'm' : 'w')
                    .append(random.nextInt(random.nextInt(60) == 0 ? 10 : landNumber))
                    .append(1 + random.nextInt(9)).append(random.nextInt(10));
        }
        return text.toString();
    }

    /** One of each of the lands whose figures are told. */
    static String peopleOf(Random random, String homes) {
        StringBuilder text = new StringBuilder();
        for (int person = 0; person < homes.length(); person++) {
            text.append(person == 0 ? "" : ";").append(random.nextBoolean() ? 'm' : 'w')
                    .append(homes.charAt(person)).append(1 + random.nextInt(9)).append(random.nextInt(3));
        }
        return text.toString();
    }

    static int call(Random random) {
        int sum = 0;
        for (int often : OFTEN) {
            sum += often;
        }
        int drawn = random.nextInt(sum);
        for (int call = 0; call < OFTEN.length; call++) {
            drawn -= OFTEN[call];
            if (drawn < 0) {
                return call;
            }
        }
        return 0;
    }

    static int[] arguments(Random random, int call, int week) {
        int[] a = likely(random, Calls.NAMES.get(call), week);
        int[] five = new int[5];
        System.arraycopy(a, 0, five, 0, a.length);
        if (random.nextInt(12) == 0) {
            five[random.nextInt(5)] = FAR[random.nextInt(FAR.length)];
        }
        return five;
    }

    private static int[] likely(Random random, String call, int week) {
        int land = random.nextInt(7);
        int person = random.nextInt(random.nextInt(8) == 0 ? 13 : 8);
        int event = random.nextInt(random.nextBoolean() ? 6 : 26);
        int form = random.nextInt(12) == 0 ? random.nextInt(4) : 1;
        int s = random.nextInt(12) == 0 ? random.nextInt(5) : random.nextInt(2);
        switch (call) {
            case "type": return new int[] {random.nextInt(2), "0123;mw".charAt(random.nextInt(7))};
            case "wipe":
            case "fault": return new int[] {random.nextInt(3)};
            case "person": return new int[] {person, random.nextInt(5)};
            case "shadow": return new int[] {person, 5 + random.nextInt(15)};
            case "cloud": return new int[] {random.nextInt(30), random.nextInt(8) == 0 ? 1 : 0};
            case "wed": return new int[] {week, person, random.nextInt(8), 5 + random.nextInt(15)};
            case "ends": return new int[] {week, random.nextInt(2), person};
            case "read": return new int[] {s, week};
            case "moved":
            case "nobody": return new int[] {event};
            case "width": return new int[] {land, event};
            case "state": return new int[] {person, event, random.nextInt(4)};
            case "reach": return new int[] {land, random.nextInt(random.nextBoolean() ? 100 : 300)};
            case "grows": return new int[] {land, random.nextInt(6)};
            case "survey": return new int[] {land, event, random.nextInt(150)};
            case "forged": return new int[] {person};
            case "without": return new int[] {event, land};
            case "blame": return new int[] {land};
            case "lords": return new int[] {land, land + random.nextInt(4) - 2, random.nextInt(2)};
            case "sheet": return new int[] {s, form, random.nextInt(12) - 1};
            case "lose": return new int[] {s};
            case "lay": return new int[] {s, form, random.nextInt(8), random.nextInt(5) == 0 ? random.nextInt()
                : 4 + random.nextInt(9)};
            case "get": return new int[] {s, form, random.nextInt(8)};
            case "copy": return new int[] {s, random.nextInt(5), random.nextInt(2), random.nextInt(5),
                random.nextInt(6)};
            case "write": return new int[] {event, s};
            case "count": return new int[] {random.nextInt(10)};
            default: return new int[] {};
        }
    }
}
