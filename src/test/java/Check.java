/** What the tests share: counting of answers, and texts for THE TAPE. */
final class Check {
    static final int BAD = -1, NOT = -2, FULL = -3, BIG = -4, VOID = -2000000000;

    private final String test;
    private int right;
    private int wrong;

    Check(String test) {
        this.test = test;
    }

    void due(String call, long got, long want) {
        if (got == want) {
            right++;
        } else {
            wrong++;
            System.out.println(test + ": " + call + " answered " + got + ", due is " + want);
        }
    }

    void is(String what, boolean holds) {
        due(what, holds ? 1 : 0, 1);
    }

    /** Tells how it went and ends the program with 1 if an answer was wrong. */
    void end() {
        System.out.println(test + ": " + right + " right, " + wrong + " wrong");
        if (wrong != 0 || right == 0) {
            System.exit(1);
        }
    }

    static void feed(PlanesBack x, String text) {
        for (int at = 0; at < text.length(); at += 4) {
            int n = Math.min(4, text.length() - at), v = 0;
            for (int i = 0; i < n; i++) {
                v |= (text.charAt(at + i) & 255) << 8 * i;
            }
            x.feed(n, v);
        }
    }

    static int law(PlanesBack x, String text, int from) {
        feed(x, text);
        return x.law(from);
    }

    static int contract(PlanesBack x, String text, int plane, int day, int rent) {
        feed(x, text);
        return x.contract(plane, day, rent);
    }

    static int past(PlanesBack x, int part, int where, int first, int last, int[] used) {
        int ends = 100000 * (used[3] - used[2] + 500) + used[1];
        return x.past(part, where, 20000 * (first + 9999) + last + 9999, used[0], used[2], ends);
    }

    /** Hours at the beginning and the end, landings at the beginning and the end. */
    static int[] used(int hours, int hoursAtEnd, int landings, int landingsAtEnd) {
        return new int[] {hours, hoursAtEnd, landings, landingsAtEnd};
    }
}
