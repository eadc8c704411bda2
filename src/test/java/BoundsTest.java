/**
 * All promises: the last value that each argument may have and the first that it may not, at both ends. What is taken
 * is answered, and shown later, as by the model; what is refused is answered as the promise says, and shows nowhere.
 */
public final class BoundsTest {
    private static final Checks c = new Checks();
    private static final int MIN = Integer.MIN_VALUE;
    private static final int MAX = Integer.MAX_VALUE;
    private static final int NONE = -1;
    private static final int FALSE = 0;
    private final int n;
    private final int last;
    private final Twin some;
    private final Twin fresh;

    private BoundsTest(int n) {
        this.n = n;
        last = 8 * n - 1;
        some = new Twin(n, States::some);
        fresh = new Twin(n, States::fresh);
    }

    public static void main(String[] args) {
        for (int n : new int[] {5, 9, 10, 37}) {
            BoundsTest test = new BoundsTest(n);
            test.wheels();
            test.tenths();
            test.texts();
            test.drops();
            test.written();
            test.asked();
            test.odds();
            test.counts();
            test.bettors();
            test.houses();
            test.abouts();
        }
        c.close();
    }

    private static int[] base(int... args) {
        return args;
    }

    /** Ends of an argument: from, to, and from, to of further parts. */
    private static int[] in(int... ends) {
        return ends;
    }

    private static boolean isIn(int v, int[] ends) {
        for (int i = 0; i < ends.length; i += 2) {
            if (v >= ends[i] && v <= ends[i + 1]) {
                return true;
            }
        }
        return false;
    }

    /** A call that is taken, each of its arguments put to its ends and beyond them. */
    private void bounds(String promise, String name, int refusal, int[] base, int[]... ends) {
        taken(promise, name, refusal, base);
        for (int i = 0; i < base.length; i++) {
            int[] args = base.clone();
            for (int end : ends[i]) {
                args[i] = end;
                taken(promise, name, refusal, args);
            }
            for (int k = 0; k < ends[i].length; k++) {
                int beyond = ends[i][k] + (k % 2 == 0 ? -1 : 1);
                if (!isIn(beyond, ends[i])) {
                    args[i] = beyond;
                    refused(promise, name, refusal, args);
                }
            }
            args[i] = MIN;
            refused(promise, name, refusal, args);
            args[i] = MAX;
            refused(promise, name, refusal, args);
        }
    }

    private void taken(String promise, String name, int refusal, int... args) {
        LeaningWheel x = new LeaningWheel(n);
        Model m = new Model(n);
        States.some(x);
        States.some(m);
        int got = Calls.answer(x, name, args);
        String call = promise + " of " + n + " pockets: " + Calls.told(name, args);
        c.due(call, got, Calls.answer(m, name, args));
        c.due(call + " is taken", got != refusal, true);
        if (changes(name)) {
            c.due(call + " shows later", States.look(x).equals(States.look(m)), true);
        }
    }

    private static boolean changes(String name) {
        return " pocket stud tilt late pays feed end law start write scratch bet seen ".contains(" " + name + " ");
    }

    private void refused(String promise, String name, int refusal, int... args) {
        some.refused(c, promise, refusal, name, args);
        fresh.refused(c, promise, refusal, name, args);
    }

    private void wheels() {
        bounds("2", "pocket", FALSE, base(1, 2, 4, 6), in(0, 3), in(0, n - 1), in(1, 10), in(1, 99));
        bounds("4", "tilt", FALSE, base(1, 5), in(0, 3), in(0, 99));
        bounds("6", "pays", FALSE, base(5), in(1, 99));
    }

    /** SKIPS and LATE: each 0 .. 10, together 10. */
    private void tenths() {
        int[][] taken = {{10, 0, 0, 0, 0}, {0, 10, 0, 0, 0}, {0, 0, 10, 0, 0}, {0, 0, 0, 10, 0}, {1, 2, 3, 4, 0},
            {9, 1, 0, 0, 0}, {0, 0, 1, 9, 0}};
        int[][] beyond = {{0, 0, 0, 0, 0}, {9, 0, 0, 0, 0}, {3, 2, 2, 2, 0}, {3, 3, 3, 2, 0}, {10, 1, 0, 0, 0},
            {11, 0, 0, 0, 0}, {-1, 5, 5, 1, 0}, {5, -1, 5, 1, 0}, {5, 5, -1, 1, 0}, {5, 1, 5, -1, 0},
            {11, -1, 0, 0, 0}, {-1, 11, 0, 0, 0}, {0, -1, 11, 0, 0}, {0, 0, -1, 11, 0}, {11, 0, 0, -1, 0},
            {MAX, MAX, 12, 0, 0}, {MIN, MIN, 10, 0, 0}, {MAX, MIN, 10, 1, 0}, {0, 0, MIN, MIN, 10}};
        for (int[] v : taken) {
            taken("3", "stud", FALSE, 2, 5, v[0], v[1], v[2], v[3]);
            taken("5", "late", FALSE, v);
        }
        for (int[] v : beyond) {
            refused("3", "stud", FALSE, 2, 5, v[0], v[1], v[2], v[3]);
            refused("5", "late", FALSE, v);
        }
        bounds("3", "stud", FALSE, base(1, 3, 4, 3, 2, 1), in(0, 3), in(0, 7), in(4, 4), in(3, 3), in(2, 2), in(1, 1));
        taken("5", "late", FALSE, 0, 0, 0, 0, 10);
        taken("5", "late", FALSE, 2, 2, 2, 2, 2);
        int[][] lates = {{2, 2, 2, 2, 1}, {2, 2, 2, 2, 3}, {0, 0, 0, 0, 9}, {0, 0, 0, 0, 11}, {5, 5, 0, 1, -1},
            {0, 0, 0, -1, 11}, {5, 5, 0, MAX, MIN}};
        for (int[] v : lates) {
            refused("5", "late", FALSE, v);
        }
    }

    private void texts() {
        int had = "off 3; loss speed ".length();
        bounds("8", "end", NONE, base(5), in(0, had));
        bounds("11", "law", FALSE, base(1), in(-1, 2));
        // The FAULT is of a NUMBER, at place 12.
        bounds("10", "fault", NONE, base(0), in(0, 1));
        taken("7", "feed", NONE, 0x6f6e2031, 0x3b202020, 0, -1, MIN);
    }

    private void drops() {
        int[][] release = {in(0, 3), in(0, last), in(1, 999), in(0, last), in(0, 99)};
        bounds("12", "drop", NONE, base(1, 7, 30, 3, 2, 0), release[0], release[1], release[2], release[3], release[4],
                in(0, 2, 100, 99 + n));
        bounds("13", "foretold", -1000000, base(1, 7, 30, 3, 2, 0), release[0], release[1], release[2], release[3],
                release[4], in(0, 2, 100, 99 + n, 200, 800));
        bounds("14", "start", NONE, base(1, 7, 30, 3, 2, 5), release[0], release[1], release[2], release[3], release[4],
                in(1, 9));
        bounds("15", "odds", NONE, base(1, 0, 0), in(0, 3), in(0, 3), in(-1, n - 1));
    }

    private void written() {
        bounds("16", "write", NONE, base(1, 2, 1, 3), in(0, 3), in(0, 2), in(0, 3), in(-1, n - 1));
        bounds("17", "scratch", FALSE, base(2, 1, 1), in(0, 3), in(0, 2), in(-1, 3));
    }

    private void asked() {
        bounds("18", "which", NONE, base(0, -2), in(0, 3), in(-2, 2));
        bounds("19", "falls", NONE, base(0, 1), in(0, 3), in(-1, n - 1));
        bounds("20", "nine", NONE, base(1, 3, 0), in(0, 3), in(1, Math.min(9, n - 1)), in(0, 1, 10, 12));
        bounds("25", "habit", NONE, base(0, 2, 0), in(0, 3), in(1, 4), in(0, 3));
    }

    private void odds() {
        bounds("21", "above", NONE, base(10, 1, 1), in(1, 60), in(0, 10), in(1, n - 1));
        bounds("22", "among", NONE, base(10, 1, 1), in(1, 60), in(0, 10), in(1, Math.min(9, n - 1)));
        spans(0);
        spans(1);
        bounds("24", "need", NONE, base(500, n, 1, 0), in(1, 999), in(2, 1000000), in(1, 999), in(0, 1));
        bounds("27", "luck", NONE, base(3, 1, 10, 1), in(1, 4), in(0, 3), in(1, 20), in(0, 10));
        bounds("26", "goal", NONE, base(8, 20, 5, 300, 0), in(0, 40), in(1, 40), in(0, 10), in(0, 1000), in(0, 1));
    }

    private void spans(int high) {
        int[][] taken = {{10, 3, 20}, {1, 0, 20}, {60, 3, 20}, {10, 0, 20}, {10, 10, 20}, {10, 3, 2}, {10, 3, 1000000}};
        int[][] beyond = {{0, 0, 20}, {61, 3, 20}, {10, -1, 20}, {10, 11, 20}, {10, 3, 1}, {10, 3, 1000001},
            {MIN, 3, 20}, {MAX, 3, 20}, {10, MIN, 20}, {10, MAX, 20}, {10, 3, MIN}, {10, 3, MAX}};
        for (int[] v : taken) {
            taken("23", "span", NONE, v[0], v[1], v[2], high);
        }
        for (int[] v : beyond) {
            refused("23", "span", NONE, v[0], v[1], v[2], high);
        }
    }

    /** k 0 .. n, x 0 .. n, g 0 .. D, w 0 .. n, where the other one is at its own ends. */
    private void counts() {
        for (int most : new int[] {1, 60}) {
            for (int k : new int[] {0, most}) {
                taken("21", "above", NONE, most, k, 1);
                taken("22", "among", NONE, most, k, 1);
                taken("23", "span", NONE, most, k, 5, 0);
                taken("23", "span", NONE, most, k, 5, 1);
            }
            for (int k : new int[] {-1, most + 1}) {
                refused("21", "above", NONE, most, k, 1);
                refused("22", "among", NONE, most, k, 1);
                refused("23", "span", NONE, most, k, 5, 0);
                refused("23", "span", NONE, most, k, 5, 1);
            }
        }
        for (int days : new int[] {1, 4}) {
            taken("27", "luck", NONE, days, days, 10, 1);
            refused("27", "luck", NONE, days, days + 1, 10, 1);
        }
        for (int bets : new int[] {1, 20}) {
            taken("27", "luck", NONE, 2, 1, bets, bets);
            refused("27", "luck", NONE, 2, 1, bets, bets + 1);
        }
        for (int j : new int[] {1, Math.min(9, n - 1)}) {
            taken("20", "nine", NONE, 1, j, 10);
            taken("20", "nine", NONE, 1, j, 9 + j);
            refused("20", "nine", NONE, 1, j, 10 + j);
            refused("20", "nine", NONE, 1, j, 9);
        }
    }

    private void bettors() {
        bounds("28", "run", NONE, base(1, 0, 0, 50, 0), in(0, 2), in(0, 3), in(0, 2), in(1, 9999), in(0, 2));
        bounds("29", "bet", NONE, base(0, 8, 2), in(0, 3), in(6, 10, 12, 13), in(0, n - 1));
        int[][] beyond = {{0, -1, 2}, {0, 14, 2}, {0, 5, 2}, {0, 11, 2}, {1, 0, 1}, {1, 0, 2}};
        for (int[] v : beyond) {
            refused("29", "bet", NONE, v);
        }
        taken("29", "bet", NONE, 2, 0, 2);
        bounds("30", "watched", NONE, base(0, 0), in(0, 3), in(0, 2));
    }

    private void houses() {
        bounds("31", "house", NONE, base(6, 50, 2, 30, 0), in(1, 20), in(0, 9999), in(0, 20), in(0, 9999), in(0, 1));
        bounds("32", "seen", NONE, base(40, 17), in(1, 999), in(0, 600));
        bounds("33", "shoe", -1000, base(0), in(0, 3));
    }

    private void abouts() {
        bounds("36", "about", NONE, base(3), in(0, 7, 10, 13, 20, 23));
        c.due("1: N", new LeaningWheel(n).about(0), n);
    }
}
