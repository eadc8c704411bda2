/** Promises 1 to 6 and 12 to 15: wheels, drops and hands. */
public final class WheelTest {
    private static final Checks c = new Checks();
    private static final int MIN = Integer.MIN_VALUE;
    private static final int MAX = Integer.MAX_VALUE;

    public static void main(String[] args) {
        making();
        atFirst(5);
        atFirst(37);
        telling();
        tenths();
        dropping();
        lastTenth();
        skipping();
        foretelling();
        foretellingWrong();
        hands();
        c.close();
    }

    private static void making() {
        int[][] made = {{5, 5}, {37, 37}, {20, 20}, {4, 5}, {38, 37}, {0, 5}, {-1, 5}, {MIN, 5}, {MAX, 37}};
        for (int[] m : made) {
            LeaningWheel x = new LeaningWheel(m[0]);
            c.due("1: pockets of " + m[0], x.about(0), m[1]);
            c.due("1: leans of " + m[0], x.about(23), 10 * m[1]);
        }
        LeaningWheel x = new LeaningWheel(10);
        x.pays(7);
        x.write(0, 0, 0, 0);
        c.due("1: back to the first image", x.back(), 0);
        c.due("1: pay of the first image", x.about(7), 35);
    }

    /** HOLD 10, SKIPS 10 for 0, TILT 0, LEAN 10, LATE 10 for 0, PAY 35, no LAW, of each WHEEL and POCKET. */
    private static void atFirst(int n) {
        for (int wheel = 0; wheel < 4; wheel++) {
            LeaningWheel x = new LeaningWheel(n);
            c.due("1: LEANS at first", x.about(20 + wheel), 10 * n);
            for (int pocket = 0; pocket < n; pocket++) {
                // STUD 1 at N; the DISH puts the POCKET under it.
                int dish = (n - 8 * pocket + 8 * n) % (8 * n);
                c.due("1: HOLD of " + pocket + " at first", x.drop(wheel, 0, 1, dish, 0, 100 + pocket), 1000);
            }
            for (int stud = 0; stud < 8; stud++) {
                c.due("1: SKIPS of " + stud + " at first", x.drop(wheel, (stud + 7) % 8 * n, 1, 0, 0, 100 + stud * n / 8),
                        1000);
            }
            c.due("1: LATE at first", x.foretold(wheel, 0, 1, 0, 8, 100 + n / 8), 10000);
            c.due("1: PAY at first", x.foretold(wheel, 0, 1, 0, 8, 2), 350000);
            Checks.read(x, "off 20 + tilt;");
            c.due("1: no LAW at first", x.drop(wheel, 0, 20, 0, 0, 0), 12);
            x.law(0);
            c.due("1: TILT at first, off", x.drop(wheel, 0, 20, 0, 0, 0), 0);
            c.due("1: TILT at first", x.drop(wheel, 0, 21, 0, 0, 0), 1);
        }
    }

    private static void telling() {
        LeaningWheel x = new LeaningWheel(10);
        c.due("2: pocket", x.pocket(3, 9, 1, 99), true);
        c.due("2: lean", x.about(23), 189);
        c.due("2: another wheel's leans", x.about(22), 100);
        c.due("2: pocket again", x.pocket(3, 9, 10, 1), true);
        c.due("2: lean again", x.about(23), 91);
        int[][] wrong = {{-1, 0, 5, 5}, {4, 0, 5, 5}, {0, -1, 5, 5}, {0, 10, 5, 5}, {0, 0, 0, 5}, {0, 0, 11, 5},
            {0, 0, 5, 0}, {0, 0, 5, 100}, {MAX, MAX, MAX, MAX}, {MIN, MIN, MIN, MIN}};
        for (int[] w : wrong) {
            c.due("2: wrong pocket", x.pocket(w[0], w[1], w[2], w[3]), false);
        }
        c.due("2: leans as they were", x.about(20), 100);
        c.due("2: holds as they were", x.drop(0, 0, 1, 0, 0, 101), 1000);
        c.due("4: tilt", x.tilt(0, 99), true);
        c.due("4: tilt 0", x.tilt(3, 0), true);
        c.due("4: tilt too much", x.tilt(0, 100), false);
        c.due("4: tilt too little", x.tilt(0, -1), false);
        c.due("4: tilt of no wheel", x.tilt(4, 1), false);
        c.due("4: tilt of no wheel below", x.tilt(-1, 1), false);
        c.due("6: pays", x.pays(99), true);
        c.due("6: pays 1", x.pays(1), true);
        c.due("6: pays 0", x.pays(0), false);
        c.due("6: pays 100", x.pays(100), false);
        c.due("6: pay", x.about(7), 1);
    }

    private static void tenths() {
        LeaningWheel x = new LeaningWheel(10);
        c.due("3: stud", x.stud(3, 7, 0, 0, 0, 10), true);
        c.due("3: stud of parts", x.stud(0, 0, 1, 2, 3, 4), true);
        int[][] wrong = {{-1, 0, 10, 0, 0, 0}, {4, 0, 10, 0, 0, 0}, {0, -1, 10, 0, 0, 0}, {0, 8, 10, 0, 0, 0},
            {0, 0, 9, 0, 0, 0}, {0, 0, 9, 1, 1, 0}, {0, 0, 11, -1, 0, 0}, {0, 0, 5, 6, 0, -1}, {0, 0, MAX, MIN, 11, 0}};
        for (int[] w : wrong) {
            c.due("3: wrong stud", x.stud(w[0], w[1], w[2], w[3], w[4], w[5]), false);
        }
        c.due("5: late", x.late(0, 0, 0, 0, 10), true);
        c.due("5: late of parts", x.late(2, 2, 2, 2, 2), true);
        c.due("5: late too much", x.late(2, 2, 2, 2, 3), false);
        c.due("5: late too little", x.late(2, 2, 2, 2, 1), false);
        c.due("5: late below 0", x.late(12, 0, 0, 0, -2), false);
        c.due("5: late that wraps round", x.late(MAX, MAX, 12, 0, 0), false);
    }

    private static void dropping() {
        LeaningWheel x = new LeaningWheel(10);
        // 12 .. 9 are gone by when 8 is off: 42 points on; stud 42 / 10 + 1.
        due(x, 0, 12, 0, 0, new int[] {4, 5, 6});
        due(x, 40, 12, 0, 0, new int[] {4, 1, 1});
        // 4 tenths by 21 turn the dish from 5 to -79, which is 1: (50 - 1) / 8.
        due(x, 0, 12, 5, 21, new int[] {4, 5, 6});
        // And by 10 to -35, which is 45: 5 / 8.
        due(x, 0, 12, 5, 10, new int[] {4, 5, 0});
        due(x, 0, 8, 0, 0, new int[] {0, 1, 1});
        due(x, 79, 1, 79, 99, new int[] {0, 0, 0});
        due(x, 75, 9, 0, 0, new int[] {1, 1, 1});
        int[][] wrong = {{-1, 0, 1, 0, 0, 0}, {4, 0, 1, 0, 0, 0}, {0, -1, 1, 0, 0, 0}, {0, 80, 1, 0, 0, 0},
            {0, 0, 0, 0, 0, 0}, {0, 0, 1000, 0, 0, 0}, {0, 0, 1, -1, 0, 0}, {0, 0, 1, 80, 0, 0}, {0, 0, 1, 0, -1, 0},
            {0, 0, 1, 0, 100, 0}, {0, 0, 1, 0, 0, -1}, {0, 0, 1, 0, 0, 3}, {0, 0, 1, 0, 0, 99}, {0, 0, 1, 0, 0, 110},
            {0, 0, 1, 0, 0, MIN}, {0, 0, 1, 0, 0, MAX}, {MIN, MIN, MIN, MIN, MIN, 0}, {MAX, MAX, MAX, MAX, MAX, 0}};
        for (int[] w : wrong) {
            c.due("12: wrong drop", x.drop(w[0], w[1], w[2], w[3], w[4], w[5]), -1);
        }
        byLaw();
    }

    private static void due(LeaningWheel x, int point, int speed, int dish, int turn, int[] want) {
        for (int what = 0; what < 3; what++) {
            c.due("12: drop " + point + " " + speed + " " + dish + " " + turn + " what " + what,
                    x.drop(0, point, speed, dish, turn, what), want[what]);
        }
        c.due("12: odds where it comes to", x.drop(0, point, speed, dish, turn, 100 + want[2]), 1000);
    }

    private static void byLaw() {
        LeaningWheel x = new LeaningWheel(10);
        x.tilt(1, 7);
        c.due("12: reads", Checks.read(x, "loss point / 10 + tenth + 1; off tilt + side;"), 0);
        x.law(0);
        // Speed 30 at 0: loss 1; 29 at 30: 3 + 1 + 1; 24 at 59: 5 + 2 + 1; 16 at 3: 0 + 3 + 1; 12 at 19: 1 + 4 + 1;
        // 6 at 31 is off by tilt 7 + side 3 of wheel 1, of wheel 0 (off 3) it goes on: loss 3 + 5 + 1.
        c.due("12: off by tilt and side", x.drop(1, 0, 30, 0, 0, 0), 5);
        c.due("12: stud by tilt and side", x.drop(1, 0, 30, 0, 0, 1), 4);
        c.due("12: off without tilt", x.drop(0, 0, 30, 0, 0, 0), 6);
        c.due("12: stud without tilt", x.drop(0, 0, 30, 0, 0, 1), 4);
        c.due("12: reads", Checks.read(x, "loss 0 - 5; off -1000;"), 1);
        x.law(1);
        // A loss below 1 is 1; a speed below 1 is off by any law.
        c.due("12: a loss is 1 at least", x.drop(0, 0, 7, 0, 0, 0), 7);
        c.due("12: reads", Checks.read(x, "loss 9999; off 0;"), 2);
        x.law(2);
        c.due("12: a loss is 999 at most", x.drop(0, 0, 999, 0, 0, 0), 1);
        c.due("12: reads", Checks.read(x, "off 999;"), 3);
        x.law(3);
        c.due("12: off at once", x.drop(0, 0, 999, 0, 0, 0), 0);
    }

    private static void lastTenth() {
        LeaningWheel x = new LeaningWheel(5);
        c.due("12: off at 600", x.drop(0, 0, 999, 0, 0, 0), 600);
        c.due("12: off at 600 by law", x.drop(0, 0, 608, 0, 0, 0), 600);
        c.due("12: off ahead of 600", x.drop(0, 0, 607, 0, 0, 0), 599);
        Checks.read(x, "off tenth * 1000 - 600 * 1000 + 1000;");
        x.law(0);
        c.due("12: off by tenth", x.drop(0, 0, 999, 0, 0, 0), 600);
    }

    private static void skipping() {
        LeaningWheel x = new LeaningWheel(5);
        // Stud 1 at 5 / 8: pocket 0.
        x.stud(0, 1, 1, 2, 3, 4);
        for (int p = 0; p < 5; p++) {
            x.pocket(0, p, 1 + p, 10);
        }
        int[] odds = new int[5];
        int[] skips = {1, 2, 3, 4};
        for (int k = 0; k < 4; k++) {
            int p = k;
            int h = 1 + p;
            int next = 1 + (p + 1) % 5;
            odds[p] += skips[k] * h * 10;
            odds[(p + 1) % 5] += skips[k] * (10 - h) * next;
            odds[(p + 2) % 5] += skips[k] * (10 - h) * (10 - next);
        }
        int all = 0;
        for (int p = 0; p < 5; p++) {
            c.due("12: odds of pocket " + p, x.drop(0, 0, 1, 0, 0, 100 + p), odds[p]);
            all += odds[p];
        }
        c.due("12: all odds", all, 1000);
        c.due("12: the first pocket is ahead of skips", x.drop(0, 0, 1, 0, 0, 2), 0);
        c.due("12: odds on another wheel", x.drop(1, 0, 1, 0, 0, 100), 1000);
    }

    private static void foretelling() {
        LeaningWheel x = new LeaningWheel(10);
        x.late(2, 2, 2, 2, 2);
        // Speed 8 is off at once: late tenths put the ball 8 on, the dish 2 back: studs 1 1 2 3 4 at 10 .. 40.
        int[] want = new int[10];
        int[] ball = {0, 8, 16, 24, 32};
        for (int l = 0; l < 5; l++) {
            int stud = ball[l] / 10 + 1;
            want[(stud * 10 + 2 * l) / 8] += 2000;
        }
        for (int p = 0; p < 10; p++) {
            c.due("13: odds of " + p, x.foretold(0, 0, 8, 0, 2, 100 + p), want[p]);
        }
        c.due("13: best, of like ones the lowest", x.foretold(0, 0, 8, 0, 2, 0), 1);
        c.due("13: its odds", x.foretold(0, 0, 8, 0, 2, 1), want[1]);
        c.due("13: worth", x.foretold(0, 0, 8, 0, 2, 2), want[1] * 36 - 10000);
        x.pays(1);
        c.due("13: worth below 0", x.foretold(0, 0, 8, 0, 2, 2), want[1] * 2 - 10000);
        c.due("13: in time at 0", x.foretold(0, 0, 8, 0, 2, 200), 1);
        c.due("13: not in time at 1", x.foretold(0, 0, 8, 0, 2, 201), 0);
        c.due("13: in time at 600", x.foretold(0, 0, 999, 0, 2, 800), 1);
        x.late(0, 0, 0, 0, 10);
        c.due("13: round the ring", x.foretold(0, 70, 8, 1, 1, 0), (30 - 77 + 80) / 8);
    }

    private static void foretellingWrong() {
        LeaningWheel x = new LeaningWheel(10);
        int[][] wrong = {{-1, 0, 1, 0, 0, 0}, {4, 0, 1, 0, 0, 0}, {0, -1, 1, 0, 0, 0}, {0, 80, 1, 0, 0, 0},
            {0, 0, 0, 0, 0, 0}, {0, 0, 1000, 0, 0, 0}, {0, 0, 1, -1, 0, 0}, {0, 0, 1, 80, 0, 0}, {0, 0, 1, 0, -1, 0},
            {0, 0, 1, 0, 100, 0}, {0, 0, 1, 0, 0, -1}, {0, 0, 1, 0, 0, 3}, {0, 0, 1, 0, 0, 99}, {0, 0, 1, 0, 0, 110},
            {0, 0, 1, 0, 0, 199}, {0, 0, 1, 0, 0, 801}, {0, 0, 1, 0, 0, MIN}, {0, 0, 1, 0, 0, MAX}};
        for (int[] w : wrong) {
            c.due("13: wrong", x.foretold(w[0], w[1], w[2], w[3], w[4], w[5]), -1000000);
        }
    }

    private static void hands() {
        LeaningWheel x = new LeaningWheel(10);
        c.due("15: without starts", x.odds(0, 3, 0), 0);
        c.due("15: lower without starts", x.odds(0, 3, -1), 0);
        for (int i = 1; i <= 6; i++) {
            c.due("14: start " + i, x.start(3, i == 1 ? 0 : 10, 1, 0, 0, i), i);
        }
        c.due("14: a seventh", x.start(3, 0, 1, 0, 0, 1), -1);
        c.due("14: another hand", x.start(0, 0, 1, 0, 0, 9), 1);
        c.due("14: about", x.about(13), 6);
        c.due("15: lower", x.odds(0, 3, -1), 21000);
        c.due("15: of stud 1", x.odds(0, 3, 1), 1000);
        c.due("15: of stud 2", x.odds(0, 3, 2), 20000);
        c.due("15: of none", x.odds(0, 3, 3), 0);
        x.stud(2, 2, 0, 5, 5, 0);
        c.due("15: at a wheel", x.odds(2, 3, 3), 10000);
        // 50 points on in 4 tenths, the dish from 7 to -5: stud 6, (60 + 5) / 8.
        c.due("14: dish and turn", x.start(1, 8, 12, 7, 3, 2), 1);
        c.due("15: dish and turn", x.odds(3, 1, 8), 2000);
        c.due("15: the first hand's", x.odds(3, 0, 1), 9000);
        int[][] wrong = {{4, 0, 1, 0, 0, 1}, {-1, 0, 1, 0, 0, 1}, {0, 80, 1, 0, 0, 1}, {0, -1, 1, 0, 0, 1},
            {0, 0, 0, 0, 0, 1}, {0, 0, 1000, 0, 0, 1}, {0, 0, 1, 80, 0, 1}, {0, 0, 1, -1, 0, 1}, {0, 0, 1, 0, 100, 1},
            {0, 0, 1, 0, -1, 1}, {0, 0, 1, 0, 0, 0}, {0, 0, 1, 0, 0, 10}, {MAX, MAX, MAX, MAX, MAX, MAX}};
        for (int[] w : wrong) {
            c.due("14: wrong start", x.start(w[0], w[1], w[2], w[3], w[4], w[5]), -1);
        }
        c.due("14: as many as before", x.about(10), 1);
        int[][] asked = {{-1, 0, 0}, {4, 0, 0}, {0, -1, 0}, {0, 4, 0}, {0, 0, 10}, {0, 0, -2}, {MAX, MIN, MAX}};
        for (int[] w : asked) {
            c.due("15: wrong odds", x.odds(w[0], w[1], w[2]), -1);
        }
    }
}
