import java.util.Random;

/** Runs of calls by fixed seeds, each answer compared with the model's. */
public final class RandomRunsTest {
    private static final int[] ENDS = {Integer.MIN_VALUE, Integer.MAX_VALUE, -1, -2, 0, 1, 2, 999, 1000, 1001, 600, 601};
    private final Random random;
    private final LeaningWheel x;
    private final Model m;
    private final int n;
    private final int focus;
    private String call;
    private static int wrong = 0;
    private static int calls = 0;

    private RandomRunsTest(long seed) {
        random = new Random(seed);
        int told = random.nextInt(4) == 0 ? 5 : random.nextInt(45);
        x = new LeaningWheel(told);
        m = new Model(told);
        n = m.n;
        focus = random.nextInt(6);
    }

    public static void main(String[] args) {
        Ends.inTime();
        int runs = args.length > 0 ? Integer.parseInt(args[0]) : 250;
        int from = args.length > 1 ? Integer.parseInt(args[1]) : 0;
        for (int seed = from; seed < from + runs && wrong < 20; seed++) {
            RandomRunsTest run = new RandomRunsTest(seed);
            for (int i = 0; i < 512 && wrong < 20; i++) {
                run.call(seed, i);
            }
        }
        System.out.println(calls + " calls, " + wrong + " not as the model's");
        if (wrong > 0) {
            System.exit(1);
        }
    }

    private void call(int seed, int i) {
        call = "";
        int[] two = answers();
        calls++;
        if (two[0] != two[1]) {
            wrong++;
            System.out.println("seed " + seed + " call " + i + ": " + call + " answered " + two[0] + ", the model " + two[1]);
        }
    }

    /** Mostly from low to high, now and then one beyond, seldom anything. */
    private int in(int low, int high) {
        int r = random.nextInt(120);
        int v = r == 0 ? ENDS[random.nextInt(ENDS.length)] : r == 1 ? low - 1 : r == 2 ? high + 1
                : r < 8 ? low : r < 14 ? high : low + random.nextInt(high - low + 1);
        call += " " + v;
        return v;
    }

    private boolean flip() {
        return random.nextBoolean();
    }

    private int[] two(int a, int b) {
        return new int[] {a, b};
    }

    private int[] two(boolean a, boolean b) {
        return new int[] {a ? 1 : 0, b ? 1 : 0};
    }

    private int[] answers() {
        if (random.nextInt(3) == 0) {
            return told();
        }
        if (random.nextInt(60) == 0) {
            return imageOrBack();
        }
        switch (random.nextInt(10)) {
            case 0: return tape();
            case 1: return drops();
            case 2: return written();
            case 3: return focus < 3 ? written() : drops();
            case 4: return odds();
            case 5: return written();
            case 6: return bettors();
            case 7: return rest();
            case 8: return about();
            default: return asked();
        }
    }

    private int[] imageOrBack() {
        if (random.nextInt(3) > 0) {
            call = "image";
            return two(x.image(), m.image());
        }
        call = "back";
        return two(x.back(), m.back());
    }

    private int[] about() {
        call = "about";
        int what = random.nextInt(5) == 0 ? in(-2, 30) : flip() ? in(0, 7) : flip() ? in(10, 13) : in(20, 23);
        return two(x.about(what), m.about(what));
    }

    private int[] tens(int k) {
        int[] v = new int[k];
        for (int i = 0; i < 10; i++) {
            v[random.nextInt(k)]++;
        }
        if (random.nextInt(20) == 0) {
            v[random.nextInt(k)] += random.nextInt(5) - 2;
        }
        if (random.nextInt(20) == 0) {
            int d = random.nextInt(12);
            v[0] += d;
            v[1] -= d;
        }
        call += java.util.Arrays.toString(v);
        return v;
    }

    private int[] told() {
        int a;
        int b;
        int c;
        int d;
        switch (random.nextInt(6)) {
            case 0: case 1:
                call = "pocket";
                a = in(0, 3);
                b = in(0, n - 1);
                c = in(1, 10);
                d = in(1, random.nextInt(3) == 0 ? 99 : 12);
                return two(x.pocket(a, b, c, d), m.pocket(a, b, c, d));
            case 2:
                call = "stud";
                a = in(0, 3);
                b = in(0, 7);
                int[] v = tens(4);
                return two(x.stud(a, b, v[0], v[1], v[2], v[3]), m.stud(a, b, v[0], v[1], v[2], v[3]));
            case 3:
                call = "tilt";
                a = in(0, 3);
                b = in(0, 99);
                return two(x.tilt(a, b), m.tilt(a, b));
            case 4:
                call = "late";
                int[] l = tens(5);
                return two(x.late(l[0], l[1], l[2], l[3], l[4]), m.late(l[0], l[1], l[2], l[3], l[4]));
            default:
                call = "pays";
                a = in(1, 99);
                return two(x.pays(a), m.pays(a));
        }
    }

    private int[] tape() {
        switch (random.nextInt(12)) {
            case 0:
                call = "end";
                int k = in(0, m.tape.size());
                return two(x.end(k), m.end(k));
            case 1:
                call = "feed";
                int v = random.nextInt();
                return two(x.feed(v, 0, v, 1, v), m.feed(v, 0, v, 1, v));
            case 2:
                call = "law";
                int t = in(-1, m.s.texts.size() - 1);
                return two(x.law(t), m.law(t));
            case 3:
                call = "fault";
                int what = in(0, 1);
                return two(x.fault(what), m.fault(what));
            default:
                return readText();
        }
    }

    private int[] readText() {
        String text = new TextMaker(random).text();
        call = "text " + text;
        int had = random.nextInt(8) == 0 ? m.tape.size() : 0;
        if (x.end(had) != m.end(had)) {
            return two(1, 0);
        }
        for (int i = 0; i < text.length(); i += 20) {
            int[] v = new int[5];
            for (int k = 0; k < 20; k++) {
                v[k / 4] |= (i + k < text.length() ? text.charAt(i + k) : 0) << 24 - k % 4 * 8;
            }
            if (x.feed(v[0], v[1], v[2], v[3], v[4]) != m.feed(v[0], v[1], v[2], v[3], v[4])) {
                return two(1, 0);
            }
        }
        if (x.end(had + text.length()) != m.end(had + text.length()) || x.text() != m.text()
                || x.about(6) != m.about(6) || x.fault(1) != m.fault(1)) {
            return two(x.fault(1) + 1000, m.fault(1));
        }
        return two(x.fault(0), m.fault(0));
    }

    private int[] drops() {
        int wheel = in(0, 3);
        int point = in(0, 8 * n - 1);
        int speed = in(1, random.nextInt(4) == 0 ? 999 : 60);
        int dish = in(0, 8 * n - 1);
        int turn = in(0, 99);
        int what = flip() ? in(0, 2) : flip() ? in(100, 99 + n) : in(200, 800);
        switch (random.nextInt(4)) {
            case 0:
                call += " drop";
                return two(x.drop(wheel, point, speed, dish, turn, what), m.drop(wheel, point, speed, dish, turn, what));
            case 1:
                call += " foretold";
                return two(x.foretold(wheel, point, speed, dish, turn, what),
                        m.foretold(wheel, point, speed, dish, turn, what));
            case 2:
                int hand = in(0, 3);
                int weight = in(1, 9);
                call += " start";
                return two(x.start(hand, point, speed, dish, turn, weight),
                        m.start(hand, point, speed, dish, turn, weight));
            default:
                int by = in(0, 3);
                int pocket = in(-1, n - 1);
                call += " odds";
                return two(x.odds(wheel, by, pocket), m.odds(wheel, by, pocket));
        }
    }

    private int[] written() {
        call = "written";
        int evening = in(0, focus % 3 == 0 ? 0 : 3);
        int table = in(0, focus == 4 ? 0 : 2);
        if (random.nextInt(6) == 0) {
            call = "scratch" + call;
            int wheel = in(-1, random.nextInt(3) == 0 ? 3 : -1);
            return two(x.scratch(evening, table, wheel), m.scratch(evening, table, wheel));
        }
        int hand = in(0, focus == 5 ? 0 : 3);
        int pocket = random.nextInt(10) == 0 ? -1 : in(0, flip() ? n - 1 : 2);
        return two(x.write(evening, table, hand, pocket), m.write(evening, table, hand, pocket));
    }

    private int[] asked() {
        int a;
        int b;
        int c;
        switch (random.nextInt(4)) {
            case 0:
                call = "which";
                a = in(0, 3);
                b = in(-2, 2);
                return two(x.which(a, b), m.which(a, b));
            case 1:
                call = "falls";
                a = in(0, 3);
                b = in(-1, n - 1);
                return two(x.falls(a, b), m.falls(a, b));
            case 2:
                call = "nine";
                a = in(0, 3);
                b = in(1, Math.min(9, n - 1));
                c = flip() ? in(0, 1) : in(10, 19);
                return two(x.nine(a, b, c), m.nine(a, b, c));
            default:
                call = "habit";
                a = in(0, 3);
                b = in(1, 4);
                c = in(0, 3);
                return two(x.habit(a, b, c), m.habit(a, b, c));
        }
    }

    private int[] odds() {
        int k = in(1, random.nextInt(4) == 0 ? 60 : 15);
        int of = in(0, Math.max(0, Math.min(60, k)));
        int told = random.nextInt(3) == 0 ? in(2, 1000000) : in(2, 1000);
        int j = in(1, flip() ? n - 1 : 9);
        switch (random.nextInt(16)) {
            case 0:
                call = "need " + told;
                int q = in(1, 999);
                int sure = in(1, 999);
                int what = in(0, 1);
                return two(x.need(q, told, sure, what), m.need(q, told, sure, what));
            case 1:
                call = "span " + told + call;
                boolean high = flip();
                return two(x.span(k, of, told, high), m.span(k, of, told, high));
            case 2: case 3: case 4: case 5: case 6:
                call = "above" + call;
                return two(x.above(k, of, j), m.above(k, of, j));
            case 7: case 8: case 9: case 10:
                call = "among" + call;
                return two(x.among(k, of, j), m.among(k, of, j));
            default:
                call = "luck";
                int days = in(1, 4);
                int g = in(0, Math.max(0, Math.min(4, days)));
                int bets = in(1, 20);
                int w = in(0, flip() ? 3 : 20);
                return two(x.luck(days, g, bets, w), m.luck(days, g, bets, w));
        }
    }

    private int[] bettors() {
        int a;
        int b;
        int c;
        int d;
        switch (random.nextInt(4)) {
            case 0:
                call = "run";
                a = in(0, Math.max(0, m.s.texts.size() - 1));
                b = in(0, focus % 3 == 0 ? 0 : 3);
                c = in(0, 2);
                d = flip() ? in(1, 50) : in(1, 9999);
                int what = in(0, 2);
                return two(x.run(a, b, c, d, what), m.run(a, b, c, d, what));
            case 1:
                call = "watched";
                a = in(0, 3);
                b = in(0, 2);
                return two(x.watched(a, b), m.watched(a, b));
            default:
                call = "bet";
                a = in(0, focus == 0 ? 0 : 3);
                b = in(0, Math.max(0, m.s.written.size() - 1));
                c = in(0, flip() ? 2 : n - 1);
                return two(x.bet(a, b, c), m.bet(a, b, c));
        }
    }

    private int[] rest() {
        int a;
        int b;
        int c;
        int d;
        int e;
        switch (random.nextInt(4)) {
            case 0:
                call = "goal";
                a = in(0, flip() ? 8 : 40);
                b = in(1, 40);
                c = in(0, 10);
                d = in(0, 1000);
                e = in(0, 1);
                return two(x.goal(a, b, c, d, e), m.goal(a, b, c, d, e));
            case 1:
                call = "house";
                a = in(1, random.nextInt(10) == 0 ? 20 : 9);
                b = in(0, flip() ? 9 : 9999);
                c = in(0, flip() ? 3 : 20);
                d = in(0, flip() ? 9 : 9999);
                e = in(0, 1);
                return two(x.house(a, b, c, d, e), m.house(a, b, c, d, e));
            case 2:
                call = "seen";
                a = in(1, flip() ? 30 : 999);
                b = in(0, flip() ? 30 : 600);
                return two(x.seen(a, b), m.seen(a, b));
            default:
                call = "shoe";
                a = in(0, 3);
                return two(x.shoe(a), m.shoe(a));
        }
    }
}
