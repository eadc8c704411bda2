/** Promises 21 to 24, 26, 27 and 31 to 33: odds, goals, luck, houses and shoes; exact values by other means. */
public final class OddsTest {
    private static final Checks c = new Checks();
    private static final int MIN = Integer.MIN_VALUE;
    private static final int MAX = Integer.MAX_VALUE;

    public static void main(String[] args) {
        above();
        among();
        spans();
        needs();
        goals();
        luck();
        houses();
        shoes();
        c.close();
    }

    private static void above() {
        LeaningWheel x = new LeaningWheel(37);
        c.due("21: 3 of 38", x.above(38, 3, 1), 82792);
        c.due("21: 10 of 60", x.above(60, 10, 9), 942627);
        c.due("21: all of 60 in all but one", x.above(60, 60, 36), 193217);
        c.due("21: none or more", x.above(60, 0, 36), 1000000);
        c.due("21: hardly", x.above(60, 60, 1), 0);
        int[][] wrong = {{0, 0, 1}, {61, 0, 1}, {10, -1, 1}, {10, 11, 1}, {10, 1, 0}, {10, 1, 37}, {MIN, MIN, MIN},
            {MAX, MAX, MAX}};
        for (int[] w : wrong) {
            c.due("21: wrong", x.above(w[0], w[1], w[2]), -1);
        }
    }

    private static void among() {
        LeaningWheel x = new LeaningWheel(37);
        c.due("22: 6 of 60", x.among(60, 6, 1), 207347);
        c.due("22: 7 of 60", x.among(60, 7, 1), 42925);
        c.due("22: 30 of 60 in 9", x.among(60, 30, 9), 1000000);
        // Not cut ahead of it: 124403620 sets by far less than a millionth each.
        c.due("22: ABOVE is not cut ahead of it", x.above(60, 38, 9), 0);
        c.due("22: 38 of 60 in 9", x.among(60, 38, 9), 21766);
        int[][] wrong = {{0, 0, 1}, {61, 0, 1}, {10, -1, 1}, {10, 11, 1}, {10, 1, 0}, {10, 1, 10}, {MIN, MIN, MIN}};
        for (int[] w : wrong) {
            c.due("22: wrong", x.among(w[0], w[1], w[2]), -1);
        }
        LeaningWheel y = new LeaningWheel(5);
        c.due("22: below N", y.among(60, 60, 4), 7);
        c.due("22: N itself", y.among(60, 60, 5), -1);
    }

    private static void span(int n, int x, int told, int least, int greatest) {
        LeaningWheel wheel = new LeaningWheel(37);
        c.due("23: least of " + n + " " + x + " " + told, wheel.span(n, x, told, false), least);
        c.due("23: greatest of " + n + " " + x + " " + told, wheel.span(n, x, told, true), greatest);
    }

    private static void spans() {
        span(60, 30, 20, 388, 612);
        span(60, 0, 1000000, 0, 205);
        span(60, 60, 1000000, 795, 1000);
        span(10, 2, 40, 26, 556);
        span(1, 0, 2, 0, 500);
        span(1, 1, 1000, 1, 1000);
        span(1, 1, 1001, 1, 1000);
        span(1, 1, 999, 2, 1000);
        int[][] wrong = {{0, 0, 2}, {61, 0, 2}, {10, -1, 2}, {10, 11, 2}, {10, 1, 1}, {10, 1, 1000001}, {MIN, MIN, MIN},
            {MAX, MAX, MAX}};
        LeaningWheel x = new LeaningWheel(5);
        for (int[] w : wrong) {
            c.due("23: wrong", x.span(w[0], w[1], w[2], false), -1);
            c.due("23: wrong", x.span(w[0], w[1], w[2], true), -1);
        }
    }

    private static void need(int pockets, int q, int told, int sure, int n, int k) {
        LeaningWheel x = new LeaningWheel(pockets);
        c.due("24: n of " + pockets + " " + q + " " + told + " " + sure, x.need(q, told, sure, 0), n);
        c.due("24: k of " + pockets + " " + q + " " + told + " " + sure, x.need(q, told, sure, 1), k);
    }

    private static void needs() {
        need(37, 300, 1000000, 500, 26, 8);
        need(37, 999, 1000000, 999, 6, 5);
        need(37, 500, 2, 1, 1, 1);
        need(37, 500, 37, 500, 1, 1);
        need(37, 500, 38, 500, 3, 2);
        need(37, 100, 20, 900, -1, -1);
        need(5, 400, 20, 500, 14, 6);
        need(12, 195, 200, 500, 60, 12);
        // 61 would do.
        need(12, 218, 200, 700, -1, -1);
        need(5, 1, 5, 1, 1, 1);
        need(5, 200, 20, 500, -1, -1);
        LeaningWheel x = new LeaningWheel(5);
        int[][] wrong = {{0, 5, 500, 0}, {1000, 5, 500, 0}, {900, 1, 500, 0}, {900, 1000001, 500, 0}, {900, 5, 0, 0},
            {900, 5, 1000, 0}, {900, 5, 500, -1}, {900, 5, 500, 2}, {MIN, MIN, MIN, MIN}, {MAX, MAX, MAX, MAX}};
        for (int[] w : wrong) {
            c.due("24: wrong", x.need(w[0], w[1], w[2], w[3]), -1);
        }
    }

    private static void goal(int pay, int purse, int goal, int n, int q, int odds, int stake) {
        LeaningWheel x = new LeaningWheel(37);
        x.pays(pay);
        c.due("26: odds of " + purse + " " + goal + " " + n + " " + q, x.goal(purse, goal, n, q, 0), odds);
        c.due("26: stake of " + purse + " " + goal + " " + n + " " + q, x.goal(purse, goal, n, q, 1), stake);
    }

    private static void goals() {
        goal(35, 5, 40, 10, 27, 78832, 0);
        goal(35, 3, 40, 10, 333, 677155, 1);
        goal(35, 40, 40, 0, 5, 1000000, 0);
        goal(35, 40, 40, 10, 5, 1000000, 0);
        goal(35, 39, 40, 0, 5, 0, 0);
        goal(35, 1, 40, 10, 999, 998999, 1);
        goal(35, 1, 1, 0, 0, 1000000, 0);
        goal(35, 0, 1, 0, 0, 0, 0);
        goal(35, 1, 37, 10, 27, 5895, 1);
        goal(35, 1, 36, 1, 1000, 1000000, 1);
        goal(1, 10, 40, 10, 486, 236196, 0);
        goal(1, 1, 40, 10, 900, 757622, 1);
        goal(1, 20, 40, 1, 500, 500000, 20);
        goal(1, 19, 40, 1, 500, 0, 0);
        goal(1, 1, 3, 2, 500, 250000, 1);
        goal(1, 7, 40, 10, 501, 176347, 3);
        goal(99, 40, 1, 10, 0, 1000000, 0);
        goal(99, 1, 40, 10, 1, 1000, 0);
        LeaningWheel x = new LeaningWheel(5);
        int[][] wrong = {{-1, 1, 1, 1, 0}, {41, 1, 1, 1, 0}, {1, 0, 1, 1, 0}, {1, 41, 1, 1, 0}, {1, 1, -1, 1, 0},
            {1, 1, 11, 1, 0}, {1, 1, 1, -1, 0}, {1, 1, 1, 1001, 0}, {1, 1, 1, 1, -1}, {1, 1, 1, 1, 2},
            {MIN, MIN, MIN, MIN, MIN}, {MAX, MAX, MAX, MAX, MAX}};
        for (int[] w : wrong) {
            c.due("26: wrong", x.goal(w[0], w[1], w[2], w[3], w[4]), -1);
        }
    }

    private static void luck() {
        LeaningWheel x = new LeaningWheel(37);
        c.due("27: two of four days", x.luck(4, 2, 20, 1), 562236);
        c.due("27: every bet", x.luck(4, 4, 20, 20), 0);
        c.due("27: none is asked of a day", x.luck(4, 4, 20, 0), 1000000);
        c.due("27: no day is asked for", x.luck(4, 0, 20, 20), 1000000);
        c.due("27: one of three days", x.luck(3, 1, 5, 2), 20609);
        c.due("27: a day", x.luck(1, 1, 20, 2), x.above(20, 2, 1));
        c.due("27: a bet", x.luck(1, 1, 1, 1), 27027);
        c.due("27: every day", x.luck(4, 4, 20, 1), 31678);
        int[][] wrong = {{0, 0, 1, 0}, {5, 0, 1, 0}, {2, -1, 1, 0}, {2, 3, 1, 0}, {2, 1, 0, 0}, {2, 1, 21, 0},
            {2, 1, 5, -1}, {2, 1, 5, 6}, {MIN, MIN, MIN, MIN}, {MAX, MAX, MAX, MAX}};
        for (int[] w : wrong) {
            c.due("27: wrong", x.luck(w[0], w[1], w[2], w[3]), -1);
        }
    }

    private static void house(int days, int move, int k, int loss, int cost, int bits) {
        LeaningWheel x = new LeaningWheel(5);
        c.due("31: cost of " + days + " " + move + " " + k + " " + loss, x.house(days, move, k, loss, 0), cost);
        c.due("31: days of " + days + " " + move + " " + k + " " + loss, x.house(days, move, k, loss, 1), bits);
    }

    private static void houses() {
        house(1, 5, 0, 7, 7, 0);
        house(1, 5, 1, 7, 0, 0);
        house(20, 9999, 0, 9999, 199980, 0);
        house(20, 9999, 20, 9999, 0, 0);
        house(20, 0, 0, 5, 100, 0);
        house(20, 3, 0, 0, 0, 0);
        // Free moves: of like ones the lowest number moves on day 1 and every day behind it that it must.
        house(4, 0, 1, 5, 0, 14);
        house(4, 0, 2, 5, 0, 4);
        house(5, 0, 2, 5, 0, 10);
        house(20, 1, 19, 2, 1, 2);
        house(20, 2, 19, 1, 1, 0);
        house(20, 2, 19, 2, 2, 0);
        house(6, 3, 2, 2, 6, 20);
        house(20, 1, 1, 9999, 19, (1 << 20) - 2);
        LeaningWheel x = new LeaningWheel(5);
        int[][] wrong = {{0, 1, 1, 1, 0}, {21, 1, 1, 1, 0}, {1, -1, 1, 1, 0}, {1, 10000, 1, 1, 0}, {1, 1, -1, 1, 0},
            {1, 1, 21, 1, 0}, {1, 1, 1, -1, 0}, {1, 1, 1, 10000, 0}, {1, 1, 1, 1, -1}, {1, 1, 1, 1, 2},
            {MIN, MIN, MIN, MIN, MIN}, {MAX, MAX, MAX, MAX, MAX}};
        for (int[] w : wrong) {
            c.due("31: wrong", x.house(w[0], w[1], w[2], w[3], w[4]), -1);
        }
    }

    private static void shoe(int[] seen, int least, int a, int b, int k) {
        LeaningWheel x = new LeaningWheel(5);
        for (int i = 0; i < seen.length; i += 2) {
            c.due("32: seen", x.seen(seen[i], seen[i + 1]), i / 2 + 1);
        }
        c.due("33: least", x.shoe(0), least);
        c.due("33: A", x.shoe(1), a);
        c.due("33: B", x.shoe(2), b);
        c.due("33: C", x.shoe(3), k);
    }

    private static void shoes() {
        // With C 1 and A 0 the lowest B that is not off.
        shoe(new int[] {10, 0}, 0, 0, 0, 1);
        shoe(new int[] {10, 20}, 0, 0, 20, 1);
        shoe(new int[] {10, 21}, 0, 1, 11, 1);
        shoe(new int[] {1, 600}, 560, 20, 20, 1);
        shoe(new int[] {999, 600, 999, 600}, 0, 3, 3, 5);
        // Cut towards 0, not down: of (20 - 21) / C nothing is left.
        shoe(new int[] {1, 0, 19, 18}, 0, 1, -1, 1);
        shoe(new int[] {2, 1, 4, 2, 6, 3, 1, 0, 3, 1}, 0, 1, 0, 2);
        shoe(new int[] {5, 1, 5, 3}, 2, 0, 1, 1);
        shoe(new int[] {100, 33, 200, 66, 1, 0}, 0, 1, -1, 3);
        // What C 21, A 21 or B 21 would do better.
        shoe(new int[] {420, 20, 840, 40, 630, 30, 210, 10}, 2, 1, -20, 20);
        shoe(new int[] {20, 399, 10, 189, 5, 84}, 15, 20, -11, 1);
        shoe(new int[] {1, 600, 2, 600}, 1100, 20, 20, 1);
        shoe(new int[] {19, 0, 38, 1, 57, 2, 76, 3, 95, 4}, 0, 1, -20, 16);
        shoe(new int[] {100, 5, 200, 10, 300, 15, 999, 50}, 0, 1, 1, 20);
        shoe(new int[] {1, 0, 999, 590, 500, 295}, 3, 10, 6, 17);
        LeaningWheel x = new LeaningWheel(5);
        c.due("33: none seen", x.shoe(0), -1000);
        int[][] wrong = {{0, 0}, {1000, 0}, {1, -1}, {1, 601}, {MIN, MIN}, {MAX, MAX}};
        for (int[] w : wrong) {
            c.due("32: wrong", x.seen(w[0], w[1]), -1);
        }
        for (int i = 1; i <= 20; i++) {
            c.due("32: seen " + i, x.seen(999, 600), i);
        }
        c.due("32: a 21st", x.seen(1, 0), -1);
        c.due("33: others", x.shoe(4), -1000);
        c.due("33: others below", x.shoe(-1), -1000);
    }
}
