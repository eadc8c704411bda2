/** Where a place or a number goes round: THE RING, the POCKETS, distances, bytes; and where none may. */
public final class RoundTest {
    private static final Checks c = new Checks();
    private static final int RING = 80;

    public static void main(String[] args) {
        ballRoundTheRing();
        studsRound();
        sides();
        dishRoundTheRing();
        pocketsOfTheRing();
        skipsRound();
        heldRound();
        lateRoundTheRing();
        pocketOfAWay();
        distancesRound();
        widthsRound();
        bytes();
        numbersThatDoNot();
        c.close();
    }

    private static LeaningWheel ten() {
        return new LeaningWheel(10);
    }

    private static LeaningWheel byLaw(int n, String law) {
        LeaningWheel x = new LeaningWheel(n);
        c.due("9: reads " + law, Checks.read(x, law), 0);
        c.due("11: is THE LAW: " + law, x.law(0), true);
        return x;
    }

    /** SPEED 9 is OFF at 1, 9 points on. */
    private static void ballRoundTheRing() {
        LeaningWheel x = ten();
        int[][] struck = {{0, 1}, {1, 2}, {51, 7}, {60, 7}, {61, 0}, {70, 0}, {71, 1}, {72, 1}, {79, 1}};
        for (int[] s : struck) {
            c.due("12: the STUD from point " + s[0], x.drop(0, s[0], 9, 0, 0, 1), s[1]);
        }
        // 999 points are 39 more than rounds of 80 or of 40.
        c.due("12: many rounds at once", byLaw(10, "off 998;").drop(0, 0, 999, 0, 0, 1), 4);
        c.due("12: many rounds to the last point", byLaw(5, "off 998;").drop(0, 0, 999, 0, 0, 1), 0);
        c.due("12: many rounds to the first point", byLaw(5, "off 998;").drop(0, 1, 999, 0, 0, 1), 1);
        // From 75 by 20 to 15, where off is -45; at 95 it would be OFF.
        LeaningWheel y = byLaw(10, "off point - 60; loss 20;");
        c.due("12: point is round THE RING", y.drop(0, 75, 40, 0, 0, 0), 2);
        c.due("12: off of the point that it had", y.drop(0, 75, 15, 0, 0, 0), 0);
        c.due("12: off of the point that it had, by one", y.drop(0, 75, 16, 0, 0, 0), 1);
    }

    private static void studsRound() {
        LeaningWheel x = ten();
        for (int point = 0; point < RING; point++) {
            c.due("12: STUD at point " + point, x.drop(0, point, 1, 0, 0, 1), (point / 10 + 1) % 8);
        }
        LeaningWheel y = new LeaningWheel(37);
        c.due("12: STUD 7 of 37", y.drop(0, 7 * 37 - 1, 1, 0, 0, 1), 7);
        c.due("12: STUD 0 of 37", y.drop(0, 7 * 37, 1, 0, 0, 1), 0);
        c.due("12: STUD 0 of 37, last point", y.drop(0, 8 * 37 - 1, 1, 0, 0, 1), 0);
        c.due("12: STUD 1 of 37", y.drop(0, 36, 1, 0, 0, 1), 1);
        c.due("12: STUD 2 of 37", y.drop(0, 37, 1, 0, 0, 1), 2);
    }

    /** side is point / N, from 0 to 7: OFF at once by off 10 * side of SPEED 10 * side, a TENTH later of one more. */
    private static void sides() {
        LeaningWheel x = byLaw(10, "off 10 * (side + 1); loss 999;");
        for (int side = 0; side < 8; side++) {
            for (int point = 10 * side; point < 10 * side + 10; point += 9) {
                c.due("12: side at " + point, x.drop(0, point, 10 * side + 10, 0, 0, 0), 0);
                c.due("12: side at " + point + ", no more", x.drop(0, point, 10 * side + 11, 0, 0, 0), 1);
            }
        }
    }

    private static void dishRoundTheRing() {
        LeaningWheel x = ten();
        // STUD 1 at 10; the DISH is TURN back by then.
        int[][] turned = {{6, 6, 1}, {0, 0, 1}, {0, 5, 1}, {0, 6, 2}, {2, 8, 2}, {0, 70, 0}, {0, 69, 9}, {9, 79, 0},
            {0, 80, 1}, {0, 86, 2}, {79, 99, 3}};
        for (int[] t : turned) {
            c.due("12: the DISH from " + t[0] + " by " + t[1], x.drop(0, 0, 9, t[0], t[1], 2), t[2]);
        }
        // 600 TENTHS: the BALL 419700 on, at 36 of 56, STUD 6 at 42; the DISH 59400 back, at 16.
        LeaningWheel y = byLaw(7, "off 0;");
        c.due("12: OFF at 600", y.drop(0, 0, 999, 0, 99, 0), 600);
        c.due("12: the STUD of 600 TENTHS", y.drop(0, 0, 999, 0, 99, 1), 6);
        c.due("12: the POCKET of 600 TENTHS", y.drop(0, 0, 999, 0, 99, 2), 3);
    }

    /** OFF at once at STUD 1 (point 10) or STUD 0 (point 0). */
    private static void pocketsOfTheRing() {
        LeaningWheel x = ten();
        int[][] dishes = {{0, 1}, {2, 1}, {3, 0}, {10, 0}, {11, 9}, {18, 9}, {19, 8}, {74, 2}, {75, 1}, {79, 1}};
        for (int[] d : dishes) {
            c.due("12: the POCKET at 10 less " + d[0], x.drop(0, 0, 1, d[0], 0, 2), d[1]);
        }
        int[][] more = {{0, 0}, {1, 9}, {8, 9}, {9, 8}, {72, 1}, {73, 0}, {79, 0}};
        for (int[] d : more) {
            c.due("12: the POCKET at 0 less " + d[0], x.drop(0, 79, 1, d[0], 0, 2), d[1]);
        }
    }

    private static void odds(String call, LeaningWheel x, int dish, int... due) {
        for (int p = 0; p < due.length; p++) {
            c.due("12: " + call + ", ODDS of " + p, x.drop(0, 0, 1, dish, 0, 100 + p), due[p]);
        }
    }

    /** Of 5 POCKETS, STUD 1 at 5: it comes to 0 by the DISH at 5, to 4 at 6, to 3 at 14, to 2 at 22. */
    private static void skipsRound() {
        LeaningWheel x = new LeaningWheel(5);
        x.stud(0, 1, 1, 2, 3, 4);
        odds("from 0", x, 5, 100, 200, 300, 400, 0);
        odds("from 4", x, 6, 200, 300, 400, 0, 100);
        odds("from 3", x, 14, 300, 400, 0, 100, 200);
        odds("from 2", x, 22, 400, 0, 100, 200, 300);
        c.due("12: it comes to ahead of SKIPS", x.drop(0, 0, 1, 6, 0, 2), 4);
    }

    private static void heldRound() {
        LeaningWheel x = new LeaningWheel(5);
        x.pocket(0, 4, 1, 10);
        x.pocket(0, 0, 3, 10);
        x.pocket(0, 1, 1, 10);
        odds("of 4, 0 and 1", x, 6, 270, 630, 0, 0, 100);
        odds("of 0, 1 and 2", x, 5, 300, 70, 630, 0, 0);
        odds("of 3", x, 14, 0, 0, 0, 1000, 0);
        x.pocket(0, 3, 1, 10);
        odds("of 3, 4 and 0", x, 14, 810, 0, 0, 100, 90);
        x.stud(0, 1, 0, 0, 0, 10);
        odds("three on to 4, 0 and 1", x, 37, 270, 630, 0, 0, 100);
        x.stud(0, 1, 0, 5, 0, 5);
        odds("one on to 4, three on to 1", x, 14, 135, 365, 450, 0, 50);
    }

    private static void lateRoundTheRing() {
        LeaningWheel x = byLaw(10, "off 999;");
        x.late(0, 0, 0, 0, 10);
        // 79 and 3996 are 75 round, STUD 0; the DISH 396 back from 0 is at 4.
        c.due("13: many rounds late", x.foretold(0, 79, 999, 0, 99, 0), 9);
        c.due("13: surely", x.foretold(0, 79, 999, 0, 99, 109), 10000);
        c.due("13: the DISH at 0", x.foretold(0, 76, 1, 4, 1, 0), 1);
        c.due("13: the DISH at 79", x.foretold(0, 75, 1, 3, 1, 0), 0);
        c.due("13: the BALL at 79", x.foretold(0, 75, 1, 0, 0, 0), 0);
        c.due("13: the BALL at 0", x.foretold(0, 76, 1, 0, 0, 0), 1);
        x.late(0, 10, 0, 0, 0);
        c.due("13: the BALL at 0 by one", x.foretold(0, 79, 1, 0, 0, 0), 1);
        c.due("13: the DISH from 73 by 99 to 54", x.foretold(0, 0, 1, 73, 99, 0), 4);
        // As seen it is OFF at 1 (SPEED 5 at 0, then at 5); truly it is at 5, and OFF at once.
        LeaningWheel y = byLaw(10, "off point * 100;");
        y.late(0, 10, 0, 0, 0);
        c.due("13: IN TIME as seen", y.foretold(0, 0, 5, 0, 0, 201), 1);
        c.due("13: not IN TIME as seen", y.foretold(0, 0, 5, 0, 0, 202), 0);
        c.due("13: the STUD as it truly was", y.foretold(0, 5, 5, 0, 0, 100 + 20 / 8), 10000);
    }

    /** On a POCKET of N the rest. */
    private static void pocketOfAWay() {
        int[][] on = {{10, 0}, {19, 9}, {20, 0}, {9999, 9}};
        for (int[] o : on) {
            LeaningWheel x = ten();
            x.write(0, 0, 0, o[1]);
            Checks.read(x, "on " + o[0] + ";");
            c.due("28: on " + o[0], x.run(0, 0, 0, 1, 2), 1);
        }
        LeaningWheel y = new LeaningWheel(37);
        y.write(0, 0, 0, 1);
        c.due("9: reads", Checks.read(y, "on 9999 * 9999;"), 0);
        c.due("28: on 1000000", y.run(0, 0, 0, 1, 2), 1);
        Checks.read(y, "on 36 - 37 - 36;");
        c.due("28: on below 0 goes not round", y.run(1, 0, 0, 1, 0), 1);
        Checks.read(y, "on 37 - 37 + 38;");
        c.due("28: on 38", y.run(2, 0, 0, 1, 2), 1);
        c.due("28: of another wheel", y.run(2, 0, 1, 1, 2), 0);
    }

    private static LeaningWheel thrown(int... fell) {
        LeaningWheel x = ten();
        for (int p : fell) {
            x.write(0, 0, 1, p);
        }
        return x;
    }

    private static void distancesRound() {
        int[][] two = {{9, 0, 1}, {0, 9, 9}, {4, 4, 0}, {5, 4, 9}, {4, 5, 1}, {0, 5, 5}, {9, 8, 9}, {8, 1, 3}};
        for (int[] t : two) {
            LeaningWheel x = thrown(t[0], t[1]);
            c.due("25: from " + t[0] + " to " + t[1], x.habit(1, 1, 0), t[2]);
            c.due("25: one", x.habit(1, 1, 1), 1);
        }
    }

    private static void widthsRound() {
        // Distances 9, 0, 1.
        LeaningWheel x = thrown(3, 2, 2, 3);
        c.due("25: of like ones the first", x.habit(1, 1, 0), 0);
        c.due("25: 0 and 1 ahead of 9 and 0", x.habit(1, 2, 0), 0);
        c.due("25: 9, 0, 1", x.habit(1, 3, 0), 9);
        c.due("25: all three", x.habit(1, 3, 1), 3);
        c.due("25: 8, 9, 0, 1", x.habit(1, 4, 0), 8);
        // Distances 9, 9, 0, 7.
        LeaningWheel y = thrown(3, 2, 1, 1, 8);
        c.due("25: 9", y.habit(1, 1, 0), 9);
        c.due("25: 8, 9 ahead of 9, 0, where most are", y.habit(1, 2, 0), 9);
        c.due("25: 9 and 0", y.habit(1, 2, 1), 3);
        c.due("25: 7, 8, 9, as many as of 8, 9, 0", y.habit(1, 3, 0), 7);
        c.due("25: 7, 8, 9, 0", y.habit(1, 4, 1), 4);
    }

    /** Bytes above 127, and ints below 0, are what they are. */
    private static void bytes() {
        LeaningWheel x = ten();
        c.due("7: ints below 0", x.feed(-1, 0x80808080, Integer.MIN_VALUE, Integer.MAX_VALUE, -256), 20);
        c.due("9: a byte 255", x.text(), -1);
        c.due("10: it is no TOKEN", x.fault(0), 1);
        for (int b = 0; b < 256; b++) {
            LeaningWheel y = ten();
            y.feed(0x6f6e2031, 0x3b000000 | b << 16, 0, 0, 0);
            y.end(6);
            boolean blank = b == 32 || b == 10;
            c.due("9: byte " + b + " behind a CLAUSE", y.text(), blank ? 0 : -1);
            c.due("10: byte " + b + " behind a CLAUSE", y.fault(1), blank ? -1 : 5);
        }
    }

    private static void numbersThatDoNot() {
        LeaningWheel x = new LeaningWheel(37);
        x.write(0, 0, 0, 5);
        String big = "9999 * 9999";
        Checks.read(x, "on 0; stake " + big + " * 9999 - 9999 * 100;");
        c.due("28: 1000000 * 9999 goes not round", x.run(0, 0, 0, 9999, 0), 9999 - 100);
        Checks.read(x, "on 0; stake 9999 * 100 + 100 + (0 - " + big + ") * (" + big + ") + 50;");
        c.due("28: nor the same less", x.run(1, 0, 0, 9999, 0), 9999 - 50);
        Checks.read(x, "on 0; stake 50 - (0 - " + big + ") * (" + big + ") - 9999 * 100;");
        c.due("28: nor less a number below 0", x.run(2, 0, 0, 9999, 0), 9999 - 100);
    }
}
