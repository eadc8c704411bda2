/** Promises 16 to 20, 25, 28 to 30 and 34 to 36: what is written, asked of it, bettors, images. */
public final class BookTest {
    private static final Checks c = new Checks();
    private static final int MIN = Integer.MIN_VALUE;
    private static final int MAX = Integer.MAX_VALUE;

    public static void main(String[] args) {
        writing();
        scratching();
        toldTwice();
        toldElsewhere();
        likeliest();
        manySpins();
        falling();
        nines();
        habits();
        runs();
        runsWrong();
        bets();
        images();
        about();
        c.close();
    }

    private static void writing() {
        LeaningWheel x = new LeaningWheel(10);
        int[][] wrong = {{-1, 0, 0, 0}, {4, 0, 0, 0}, {0, -1, 0, 0}, {0, 3, 0, 0}, {0, 0, -1, 0}, {0, 0, 4, 0},
            {0, 0, 0, -2}, {0, 0, 0, 10}, {MAX, MAX, MAX, MAX}, {MIN, MIN, MIN, MIN}};
        for (int[] w : wrong) {
            c.due("16: wrong", x.write(w[0], w[1], w[2], w[3]), -1);
        }
        for (int i = 0; i < 24; i++) {
            c.due("16: written", x.write(2, i % 3, i % 4, i % 2 == 0 ? -1 : 9), i + 1);
        }
        c.due("16: a 25th of the evening", x.write(2, 0, 0, 0), -1);
        c.due("16: another evening", x.write(3, 0, 0, 0), 25);
        c.due("16: about", x.about(3), 25);
    }

    private static void scratching() {
        LeaningWheel x = new LeaningWheel(10);
        int[][] wrong = {{-1, 0, 0}, {4, 0, 0}, {0, -1, 0}, {0, 3, 0}, {0, 0, -2}, {0, 0, 4}, {MAX, MAX, MAX}};
        for (int[] w : wrong) {
            c.due("17: wrong", x.scratch(w[0], w[1], w[2]), false);
        }
        c.due("18: a way without spins", x.which(1, -2), 1);
        c.due("17: told", x.scratch(1, 0, 3), true);
        c.due("17: told of two", x.scratch(1, 2, 3), true);
        c.due("18: no way without spins", x.which(1, -2), 0);
        c.due("18: another evening's", x.which(0, -2), 1);
        c.due("17: the latest counts", x.scratch(1, 2, 2), true);
        c.due("18: a way again", x.which(1, -2), 1);
        x.write(1, 0, 0, 5);
        x.write(1, 1, 0, 5);
        c.due("18: the wheel told", x.which(1, 0), 3);
        c.due("18: not one told elsewhere", x.which(1, 1), 0);
        c.due("18: ways", x.which(1, -2), 2);
        c.due("18: sure", x.which(1, -1), 500);
        c.due("18: no spins there", x.which(1, 2), -1);
        x.scratch(1, 2, -1);
        c.due("17: none any more", x.which(1, -2), 3);
        int[][] asked = {{-1, 0}, {4, 0}, {0, 3}, {0, -3}, {MIN, MIN}, {MAX, MAX}};
        for (int[] w : asked) {
            c.due("18: wrong", x.which(w[0], w[1]), -1);
        }
    }

    /** Two tables told one and the same: no way, whichever of them has spins. */
    private static void toldTwice() {
        for (int first = 0; first < 3; first++) {
            for (int second = first + 1; second < 3; second++) {
                for (int spins = 0; spins < 8; spins++) {
                    LeaningWheel x = new LeaningWheel(10);
                    x.scratch(2, first, 1);
                    x.scratch(2, second, 1);
                    int at = 0;
                    for (int table = 0; table < 3; table++) {
                        if ((spins >> table & 1) == 1) {
                            x.write(2, table, 0, 4);
                            at = table;
                        }
                    }
                    c.due("18: no way with spins " + spins, x.which(2, -2), 0);
                    c.due("18: nor a WHEEL", x.which(2, at), -1);
                    c.due("18: nor SURE", x.which(2, -1), -1);
                    c.due("19: nor FALLS", x.falls(1, -1), 0);
                    x.scratch(2, second, -1);
                    c.due("18: a way again", x.which(2, -2) > 0, true);
                }
            }
        }
    }

    /** A WHEEL told of a table is at no other, though that table has no spins. */
    private static void toldElsewhere() {
        LeaningWheel x = new LeaningWheel(10);
        x.pocket(2, 4, 10, 99);
        x.write(0, 1, 0, 4);
        c.due("18: the likeliest of all", x.which(0, 1), 2);
        x.scratch(0, 2, 2);
        c.due("18: it is elsewhere", x.which(0, 1), 0);
        c.due("18: three are left", x.which(0, -2), 3);
        x.scratch(0, 0, 0);
        c.due("18: two are", x.which(0, -2), 2);
        c.due("18: the lower of them", x.which(0, 1), 1);
        c.due("18: SURE of two", x.which(0, -1), 500);
        c.due("18: another evening", x.which(1, -2), 1);
        x.write(1, 1, 0, 4);
        c.due("18: another evening's", x.which(1, 1), 2);
        x.scratch(0, 1, 3);
        c.due("18: told there", x.which(0, 1), 3);
        c.due("18: surely", x.which(0, -1), 1000);
        c.due("19: FALLS where it stood", x.falls(3, 4), 1);
        c.due("19: and in another evening", x.falls(2, 4), 1);
    }

    private static void likeliest() {
        LeaningWheel x = new LeaningWheel(5);
        x.write(0, 0, 0, 0);
        x.write(0, 2, 0, 1);
        c.due("18: like ones: the lower wheel at the lowest table", x.which(0, 0), 0);
        c.due("18: then the next", x.which(0, 2), 1);
        c.due("18: ways of two tables", x.which(0, -2), 12);
        c.due("18: sure of like ones", x.which(0, -1), 83);
        x.pocket(3, 1, 10, 11);
        c.due("18: by lean", x.which(0, 2), 3);
        c.due("18: by lean elsewhere", x.which(0, 0), 0);
        // 1/5 * 11/51 of ways with 3 at 2 (three of them), 10/51 * 1/5 with 3 at 0, 1/25 of the six others.
        c.due("18: sure by lean", x.which(0, -1), 1000 * 11 * 5 / (3 * 11 * 5 + 3 * 10 * 5 + 6 * 51));
        x.write(0, 1, 0, -1);
        c.due("18: dozed spins ask for no wheel", x.which(0, 1), -1);
        c.due("18: ways with dozed", x.which(0, -2), 12);
        x.write(0, 1, 0, 1);
        c.due("18: ways of three tables", x.which(0, -2), 24);
        c.due("18: three tables, first", x.which(0, 0), 0);
        c.due("18: three tables, second", x.which(0, 1), 1);
        c.due("18: three tables, third", x.which(0, 2), 3);
        // The sums of leans count too: a pocket that leans more elsewhere makes this one less likely.
        LeaningWheel y = new LeaningWheel(5);
        y.pocket(0, 4, 10, 99);
        y.write(0, 0, 0, 0);
        c.due("18: by the sum of leans", y.which(0, 0), 1);
        c.due("18: sure", y.which(0, -1), 1000 * 139 / (3 * 139 + 50));
        y.pocket(0, 4, 10, 10);
        c.due("18: told anew", y.which(0, 0), 0);
    }

    private static void manySpins() {
        LeaningWheel x = new LeaningWheel(37);
        for (int p = 0; p < 37; p++) {
            for (int w = 0; w < 4; w++) {
                x.pocket(w, p, 10, 99);
            }
        }
        for (int i = 0; i < 24; i++) {
            x.write(3, 1, 0, i);
        }
        c.due("18: 24 spins on like wheels", x.which(3, 1), 0);
        c.due("18: sure of 24 spins", x.which(3, -1), 250);
        x.pocket(1, 36, 10, 98);
        c.due("18: the least there is tells", x.which(3, 1), 1);
        c.due("18: hardly", x.which(3, -1), 251);
        x.pocket(2, 36, 10, 1);
        c.due("18: more tells more", x.which(3, 1), 2);
    }

    private static void falling() {
        LeaningWheel x = new LeaningWheel(5);
        x.write(0, 0, 0, 3);
        x.write(0, 0, 1, 3);
        x.write(0, 0, 1, -1);
        x.write(1, 2, 0, 3);
        x.write(1, 2, 0, 1);
        c.due("19: of all evenings", x.falls(0, 3), 3);
        c.due("19: in another pocket", x.falls(0, 1), 1);
        c.due("19: all", x.falls(0, -1), 4);
        c.due("19: another wheel's", x.falls(1, -1), 0);
        x.scratch(1, 2, 2);
        c.due("19: where it stood", x.falls(2, -1), 2);
        c.due("19: what is left", x.falls(0, -1), 2);
        x.scratch(1, 1, 2);
        c.due("19: without a way", x.falls(2, -1), 0);
        int[][] wrong = {{-1, 0}, {4, 0}, {0, 5}, {0, -2}, {MAX, MIN}};
        for (int[] w : wrong) {
            c.due("19: wrong", x.falls(w[0], w[1]), -1);
        }
    }

    private static void nines() {
        LeaningWheel x = new LeaningWheel(12);
        c.due("20: without falls", x.nine(0, 9, 0), 0);
        c.due("20: odds without falls", x.nine(0, 9, 1), -1);
        c.due("20: pockets without falls", x.nine(0, 9, 18), 8);
        int[] fell = {7, 7, 7, 2, 2, 9, 4, 4, 11};
        for (int p : fell) {
            x.write(0, 0, 0, p);
        }
        c.due("20: the most", x.nine(0, 1, 0), 3);
        c.due("20: of three", x.nine(0, 3, 0), 7);
        c.due("20: of like ones the lowest", x.nine(0, 2, 10), 2);
        c.due("20: rising", x.nine(0, 2, 11), 7);
        c.due("20: four of them, last", x.nine(0, 4, 13), 9);
        c.due("20: among", x.nine(0, 3, 1), x.among(9, 7, 3));
        c.due("20: among just", x.nine(0, 1, 1), 397841);
        LeaningWheel one = new LeaningWheel(12);
        one.write(0, 0, 0, 4);
        c.due("20: one fall", one.nine(0, 1, 1), 1000000);
        c.due("20: where it is", one.nine(0, 1, 10), 4);
        c.due("20: no such place", x.nine(0, 3, 13), -1);
        int[][] wrong = {{-1, 1, 0}, {4, 1, 0}, {0, 0, 0}, {0, 10, 0}, {0, 3, -1}, {0, 3, 2}, {0, 3, 9}, {0, MIN, MAX},
            {0, 3, MIN}};
        for (int[] w : wrong) {
            c.due("20: wrong", x.nine(w[0], w[1], w[2]), -1);
        }
        for (int i = 0; i < 51; i++) {
            x.write(1 + i / 24, 0, 0, 7);
        }
        c.due("20: 60 falls", x.nine(0, 1, 1), 0);
        x.write(3, 0, 0, 7);
        c.due("20: 61 falls", x.nine(0, 1, 1), -1);
        c.due("20: 61 falls together", x.nine(0, 1, 0), 55);
        LeaningWheel five = new LeaningWheel(5);
        c.due("20: below N", five.nine(0, 4, 13), 3);
        c.due("20: N itself", five.nine(0, 5, 0), -1);
    }

    private static void habits() {
        LeaningWheel x = new LeaningWheel(37);
        c.due("25: without", x.habit(2, 1, 2), -1);
        x.write(0, 0, 2, 30);
        c.due("25: one spin", x.habit(2, 1, 2), -1);
        // Distances 10, 36, 0, 10, 11, round all pockets; by other hands and dozed ones nothing.
        int[] fell = {3, 2, 2, 12, 23};
        for (int p : fell) {
            x.write(1, 1, 3, 20);
            x.write(1, 1, 2, -1);
            x.write(2, 2, 2, p);
        }
        c.due("25: first distance", x.habit(2, 1, 0), 10);
        c.due("25: how many", x.habit(2, 1, 1), 2);
        c.due("25: of how many", x.habit(2, 1, 2), 5);
        c.due("25: of like ones the first", x.habit(2, 2, 0), 10);
        c.due("25: of two", x.habit(2, 2, 1), 3);
        c.due("25: of four, round", x.habit(2, 4, 0), 8);
        c.due("25: millionths", x.habit(2, 2, 3), 53801);
        c.due("25: another's", x.habit(3, 1, 0), 0);
        int[][] wrong = {{-1, 1, 0}, {4, 1, 0}, {2, 0, 0}, {2, 5, 0}, {2, 1, -1}, {2, 1, 4}, {MIN, MAX, MIN}};
        for (int[] w : wrong) {
            c.due("25: wrong", x.habit(w[0], w[1], w[2]), -1);
        }
        // In the order WRITTEN, whichever evening and table it is: distances 2, 5, not 35, 30.
        LeaningWheel z = new LeaningWheel(37);
        z.write(3, 2, 0, 8);
        z.write(0, 0, 0, 10);
        z.write(1, 1, 0, 15);
        c.due("25: in the order WRITTEN", z.habit(0, 1, 0), 2);
        c.due("25: in the order WRITTEN, both", z.habit(0, 4, 0), 2);
        c.due("25: in the order WRITTEN, both in it", z.habit(0, 4, 1), 2);
        LeaningWheel y = new LeaningWheel(5);
        y.write(0, 0, 0, 4);
        y.write(0, 0, 0, 3);
        y.write(0, 0, 0, 3);
        c.due("25: round zero", y.habit(0, 2, 0), 4);
        for (int i = 0; i < 58; i++) {
            y.write(1 + i / 24, 0, 0, 3);
        }
        c.due("25: 60 distances", y.habit(0, 1, 2), 60);
        c.due("25: their odds", y.habit(0, 1, 3), 0);
        y.write(3, 2, 0, 3);
        c.due("25: 61 distances", y.habit(0, 1, 1), 60);
        c.due("25: no odds of 61", y.habit(0, 1, 3), -1);
    }

    private static LeaningWheel table(int... fell) {
        LeaningWheel x = new LeaningWheel(10);
        for (int p : fell) {
            x.write(0, 1, 0, p);
            x.write(0, 0, 0, 9);
            x.write(1, 1, 0, 9);
        }
        return x;
    }

    private static void run(LeaningWheel x, String text, int purse, int last, int least, int won) {
        int t = Checks.read(x, text);
        c.due("28: end of " + text, x.run(t, 0, 1, purse, 0), last);
        c.due("28: least of " + text, x.run(t, 0, 1, purse, 1), least);
        c.due("28: won of " + text, x.run(t, 0, 1, purse, 2), won);
    }

    private static void runs() {
        LeaningWheel x = table(3, 3, -1, 4, 3, 4);
        x.pays(10);
        // most: none, 3, 3, 3, 3.
        run(x, "", 5, 5 + 10 - 1 + 10 - 1, 5, 2);
        run(x, "on 13;", 5, 5 + 10 + 10 - 1 + 10 - 1, 5, 3);
        run(x, "on last;", 5, 5 + 10 - 1 - 1 - 1, 5, 1);
        run(x, "on 0 - 1;", 5, 5, 5, 0);
        run(x, "stake 0 - 3; on 3;", 5, 5, 5, 0);
        run(x, "stake 9999; on 4;", 5, 0, 0, 0);
        // Stakes 1, 2, 4 as it has lost; then it has won, and stakes 1.
        LeaningWheel y = table(1, 2, 5, 5, 5, 6);
        y.pays(2);
        run(y, "stake 1 + lost * 2; on 5;", 50, 50 - 1 - 3 + 10 + 2 + 2 - 1, 46, 3);
        run(y, "stake won; on 5;", 50, 50, 50, 0);
        run(y, "stake 1 + won; on 5;", 50, 50 - 1 - 1 + 2 + 4 + 6 - 4, 48, 3);
        // Every second spin is without a stake: lost stays there.
        LeaningWheel z = table(1, 2, 3, 1);
        run(z, "stake (spin / 2 * 2 - spin + 1) * (1 + lost * 5); on 0;", 50, 50 - 1 - 6, 43, 0);
        run(z, "stake purse / 2; on 7;", 50, 4, 4, 0);
        run(z, "stake spin; on 7;", 50, 44, 44, 0);
        LeaningWheel rich = table(1, 1, 1, 1);
        rich.pays(99);
        run(rich, "stake purse; on 1;", 9999, 999999, 9999, 4);
    }

    private static void runsWrong() {
        LeaningWheel x = table(1);
        c.due("28: no text", x.run(0, 0, 0, 1, 0), -1);
        Checks.read(x, "");
        int[][] wrong = {{-1, 0, 0, 1, 0}, {1, 0, 0, 1, 0}, {0, -1, 0, 1, 0}, {0, 4, 0, 1, 0}, {0, 0, -1, 1, 0},
            {0, 0, 3, 1, 0}, {0, 0, 0, 0, 0}, {0, 0, 0, 10000, 0}, {0, 0, 0, 1, -1}, {0, 0, 0, 1, 3},
            {MIN, MIN, MIN, MIN, MIN}, {MAX, MAX, MAX, MAX, MAX}};
        for (int[] w : wrong) {
            c.due("28: wrong", x.run(w[0], w[1], w[2], w[3], w[4]), -1);
        }
        c.due("28: no spins", x.run(0, 3, 2, 9999, 1), 9999);
        c.due("28: a purse of 1", x.run(0, 0, 0, 1, 0), 1);
    }

    private static void bets() {
        LeaningWheel x = new LeaningWheel(10);
        c.due("29: no spins", x.bet(0, 0, 0), -1);
        for (int i = 0; i < 20; i++) {
            x.write(0, 0, 0, i == 5 ? -1 : i % 10);
        }
        c.due("30: without bets", x.watched(1, 0), 0);
        c.due("30: won without bets", x.watched(1, 1), 0);
        c.due("30: odds without bets", x.watched(1, 2), -1);
        int[][] wrong = {{-1, 0, 0}, {4, 0, 0}, {0, -1, 0}, {0, 20, 0}, {0, 0, -1}, {0, 0, 10}, {0, 5, 0}, {MAX, MAX, MAX}};
        for (int[] w : wrong) {
            c.due("29: wrong", x.bet(w[0], w[1], w[2]), -1);
        }
        c.due("29: first", x.bet(1, 0, 0), 1);
        c.due("29: again at that spin", x.bet(1, 0, 1), -1);
        c.due("29: another's at that spin", x.bet(2, 0, 0), 2);
        c.due("29: lost", x.bet(1, 19, 8), 3);
        c.due("30: how many", x.watched(1, 0), 2);
        c.due("30: won", x.watched(1, 1), 1);
        c.due("30: odds", x.watched(1, 2), 190000);
        c.due("30: odds of one", x.watched(2, 2), 100000);
        c.due("30: the last bettor", x.watched(3, 0), 0);
        int[][] asked = {{-1, 0}, {4, 0}, {1, -1}, {1, 3}, {MIN, MIN}};
        for (int[] w : asked) {
            c.due("30: wrong", x.watched(w[0], w[1]), -1);
        }
        int many = 3;
        for (int b = 0; b < 4; b++) {
            for (int s = 0; s < 20 && many < 60; s++) {
                int got = x.bet(b, s, 9);
                many = got > 0 ? got : many;
            }
        }
        c.due("29: sixty", x.about(4), 60);
        x.write(0, 0, 0, 1);
        c.due("29: a 61st", x.bet(0, 20, 1), -1);
    }

    private static void images() {
        LeaningWheel x = new LeaningWheel(10);
        x.write(0, 0, 0, 1);
        c.due("34: image", x.image(), 1);
        change(x);
        c.due("35: back", x.back(), 1);
        int[] abouts = {10, 0, -1, 1, 0, 0, 20, 35};
        for (int i = 0; i < 8; i++) {
            c.due("35: about " + i, x.about(i), abouts[i]);
        }
        c.due("35: starts", x.about(10), 0);
        c.due("35: leans", x.about(20), 100);
        c.due("35: holds, skips, late", x.foretold(0, 0, 1, 0, 0, 101), 10000);
        c.due("35: likeliest", x.which(0, 0), 0);
        c.due("35: falls", x.falls(0, -1), 1);
        c.due("35: scratches", x.which(0, -2), 4);
        c.due("35: seen", x.shoe(0), -1000);
        c.due("35: the fault stays", x.fault(1), 0);
        c.due("35: tilt and law", x.drop(0, 0, 12, 0, 0, 0), 4);
        change(x);
        c.due("34: likeliest ahead of it", x.which(0, 0), 3);
        c.due("34: a later image", x.image(), 2);
        x.scratch(0, 0, 1);
        x.tilt(1, 20);
        x.late(10, 0, 0, 0, 0);
        x.pocket(0, 1, 10, 10);
        x.stud(0, 1, 10, 0, 0, 0);
        c.due("35: likeliest since", x.which(0, 0), 1);
        c.due("35: falls since", x.falls(1, -1), 2);
        c.due("35: back to it", x.back(), 2);
        c.due("35: with its law", x.drop(0, 0, 12, 0, 0, 0), 3);
        c.due("35: with its tilt", x.drop(1, 0, 12, 0, 0, 0), 4);
        c.due("35: with its scratch", x.which(0, 0), 3);
        c.due("35: with its falls", x.falls(3, -1), 2);
        c.due("35: with its late", x.foretold(0, 0, 8, 0, 0, 0), 2);
        c.due("35: with its leans", x.about(20), 189);
        c.due("35: with its skips and holds", x.drop(0, 0, 1, 0, 0, 102), 500);
        c.due("35: with its shoe", x.shoe(0), 0);
        c.due("35: with its bets", x.watched(0, 1), 1);
        c.due("35: with its starts", x.odds(0, 0, -1), 3000);
        x.seen(10, 500);
        c.due("35: seen since", x.shoe(0) > 0, true);
        c.due("35: the image stays", x.back(), 2);
        c.due("35: the shoe's law again", x.shoe(0), 0);
    }

    private static void change(LeaningWheel x) {
        Checks.read(x, "off tilt;");
        Checks.read(x, "bad");
        x.feed(1, 2, 3, 4, 5);
        x.law(0);
        x.pocket(0, 1, 5, 99);
        x.stud(0, 1, 0, 5, 5, 0);
        x.tilt(0, 9);
        x.late(0, 10, 0, 0, 0);
        x.pays(2);
        x.start(0, 0, 1, 0, 0, 3);
        x.write(0, 0, 0, 2);
        x.scratch(0, 0, 3);
        x.bet(0, 0, 1);
        x.seen(10, 10);
        x.tilt(1, 8);
        x.end(20);
    }

    private static void about() {
        LeaningWheel x = new LeaningWheel(10);
        int[] whats = {-1, 8, 9, 14, 19, 24, MIN, MAX};
        for (int what : whats) {
            c.due("36: others, " + what, x.about(what), -1);
        }
        int[] fresh = {10, 0, -1, 0, 0, 0, 0, 35};
        for (int i = 0; i < 8; i++) {
            c.due("36: " + i, x.about(i), fresh[i]);
        }
        change(x);
        int[] then = {10, 1, 0, 1, 1, 1, 20, 2, -1, -1, 1, 0, 0, 0};
        for (int i = 0; i < then.length; i++) {
            c.due("36: " + i + " then", x.about(i), then[i]);
        }
        c.due("36: leans", x.about(20), 189);
        c.due("36: NONE", LeaningWheel.NONE, -1);
    }
}
