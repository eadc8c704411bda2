/** What is at least or at most so much, what is cut, and which of like ones it is. */
public final class LimitsTest {
    private static final Checks c = new Checks();
    private static final int NONE = -1;

    public static void main(String[] args) {
        offAndBelow();
        lossOfOne();
        bestOfLike();
        worth();
        weights();
        steps();
        division();
        stakes();
        counted();
        richest();
        oftenest();
        lowestOfLike();
        justLike();
        cutOdds();
        fullOdds();
        spanEnds();
        needEnds();
        goals();
        goalTies();
        tinyGoals();
        goalAgain();
        luckyDays();
        days();
        movedDays();
        shoes();
        c.close();
    }

    private static LeaningWheel byLaw(String law) {
        LeaningWheel x = new LeaningWheel(10);
        c.due("9: reads " + law, Checks.read(x, law), 0);
        x.law(0);
        return x;
    }

    private static void off(String law, int speed, int tenth) {
        c.due("12: SPEED " + speed + " by " + law, byLaw(law).drop(0, 0, speed, 0, 0, 0), tenth);
    }

    private static void offAndBelow() {
        off("off 20;", 20, 0);
        off("off 20;", 19, 0);
        off("off 20;", 21, 1);
        off("off 999;", 999, 0);
        off("off 998;", 999, 1);
        off("off 0;", 1, 1);
        off("off 0;", 2, 2);
        off("off 0 - 5;", 1, 1);
        off("off 0 - 5;", 3, 3);
        off("off 0 - 5; loss 2;", 3, 2);
        off("off 0; loss 2;", 3, 2);
        off("loss 1;", 8, 0);
        off("loss 1;", 9, 1);
        off("", 9, 1);
        // By the TENTH: SPEED 50 - t against 10 * t.
        off("off tenth * 10;", 50, 5);
        off("off tenth * 10 - 1;", 43, 4);
        off("off tenth * 10 - 1;", 44, 5);
        off("off speed - 1;", 3, 3);
        off("off speed;", 999, 0);
        off("off 399;", 999, 600);
        off("off 400;", 999, 599);
        off("off 398;", 999, 600);
        off("off tenth * 1000 - 9999 * 60 + 900;", 999, 600);
        off("off max(0, tenth - 598) * 1000;", 999, 599);
        off("off max(0, tenth - 599) * 1000;", 999, 600);
    }

    private static void lossOfOne() {
        off("loss 0; off 0;", 5, 5);
        off("loss 1; off 0;", 5, 5);
        off("loss 2; off 0;", 5, 3);
        off("loss 0 - 9999; off 0;", 5, 5);
        off("loss 998; off 0;", 999, 2);
        off("loss 999; off 0;", 999, 1);
        off("loss 9999 * 9999; off 0;", 999, 1);
        // Of 40 at 0 (loss 8), then of 32 at 40 (loss 6 + 40), OFF at 72.
        LeaningWheel x = byLaw("loss speed / 5 + point; off 0;");
        c.due("12: by the SPEED and point that it had, TENTH", x.drop(0, 0, 40, 0, 0, 0), 2);
        c.due("12: by the SPEED and point that it had, STUD", x.drop(0, 0, 40, 0, 0, 1), 0);
        // TILT 0, 1 and 99 of three WHEELS.
        LeaningWheel y = byLaw("loss tilt; off 0;");
        y.tilt(1, 1);
        y.tilt(2, 99);
        int[] tenths = {100, 100, 2, 100};
        for (int wheel = 0; wheel < 4; wheel++) {
            c.due("12: by TILT of WHEEL " + wheel, y.drop(wheel, 0, 100, 0, 0, 0), tenths[wheel]);
        }
    }

    private static void bestOfLike() {
        LeaningWheel x = new LeaningWheel(10);
        // STUD 1: POCKET 1 by the DISH at 0, 0 at 10.
        x.stud(0, 1, 5, 5, 0, 0);
        c.due("13: of like ones the lowest", x.foretold(0, 0, 1, 0, 0, 0), 1);
        c.due("13: its FORETOLD ODDS", x.foretold(0, 0, 1, 0, 0, 1), 5000);
        c.due("13: POCKETS 9 and 0, the lowest", x.foretold(0, 0, 1, 18, 0, 0), 0);
        x.stud(0, 1, 4, 6, 0, 0);
        c.due("13: the greatest", x.foretold(0, 0, 1, 0, 0, 0), 2);
        x.stud(0, 1, 6, 4, 0, 0);
        c.due("13: the greatest, the last POCKET", x.foretold(0, 0, 1, 18, 0, 0), 9);
        c.due("13: its FORETOLD ODDS, the last POCKET", x.foretold(0, 0, 1, 18, 0, 1), 6000);
        x.stud(0, 1, 1, 2, 3, 4);
        c.due("13: the greatest of four", x.foretold(0, 0, 1, 0, 0, 0), 4);
    }

    private static void worth() {
        LeaningWheel x = new LeaningWheel(10);
        c.due("13: WORTH at first PAY 35", x.foretold(0, 0, 1, 0, 0, 2), 350000);
        x.pays(99);
        c.due("13: WORTH at PAY 99", x.foretold(0, 0, 1, 0, 0, 2), 990000);
        x.pays(1);
        c.due("13: WORTH at PAY 1", x.foretold(0, 0, 1, 0, 0, 2), 10000);
        x.stud(0, 1, 3, 3, 2, 2);
        c.due("13: WORTH below 0", x.foretold(0, 0, 1, 0, 0, 2), -4000);
        x.stud(0, 1, 5, 5, 0, 0);
        c.due("13: WORTH 0", x.foretold(0, 0, 1, 0, 0, 2), 0);
    }

    private static void weights() {
        LeaningWheel x = new LeaningWheel(10);
        x.start(0, 0, 1, 0, 0, 1);
        x.start(0, 0, 1, 10, 0, 9);
        x.start(0, 0, 1, 0, 0, 2);
        c.due("15: the lower", x.odds(0, 0, NONE), 12000);
        c.due("15: WEIGHT 1 and 2", x.odds(0, 0, 1), 3000);
        c.due("15: WEIGHT 9", x.odds(0, 0, 0), 9000);
        c.due("15: of THE LAW that is then", x.odds(0, 0, 4), 0);
        Checks.read(x, "off 0;");
        x.law(0);
        x.start(1, 9, 1, 0, 0, 1);
        c.due("15: of THE LAW, off 0", x.odds(0, 1, 20 / 8), 1000);
        x.law(NONE);
        c.due("15: of THE LAW, off 8", x.odds(0, 1, 10 / 8), 1000);
    }

    /** A sum's value, 0 .. 9999, is what is staked of 9999 where nothing falls. */
    private static void sum(String sum, int due) {
        LeaningWheel x = new LeaningWheel(37);
        x.write(0, 0, 0, 5);
        c.due("9: reads " + sum, Checks.read(x, "on 0; stake " + sum + ";"), 0);
        c.due("28: " + sum, 9999 - x.run(0, 0, 0, 9999, 0), due);
    }

    /** 9999 * 100 is 999900; what is above 1000000 is that at each step, below the same less likewise. */
    private static void steps() {
        sum("9999*100 + 99 - 9999*100", 99);
        sum("9999*100 + 100 - 9999*100", 100);
        sum("9999*100 + 101 - 9999*100", 100);
        sum("9999*100 + 9999 - 9999*100", 100);
        sum("1000*1000 - 9999*100", 100);
        sum("7*9999*100/7 - 9999", 9999);
        sum("7*9999*100/7/100", 1428);
        sum("0 - 9999*100 - 99 + 9999*100 + 1000", 901);
        sum("0 - 9999*100 - 100 + 9999*100 + 1000", 900);
        sum("0 - 9999*100 - 101 + 9999*100 + 1000", 900);
        sum("-(9999*100) - 9999 + 9999*100 + 1000", 900);
        sum("-1000*1000 + 9999*100 + 1000", 900);
        sum("-1001*1000 + 9999*100 + 1000", 900);
        sum("-9999*9999*9999/1000 + 1100", 100);
        sum("9999*9999*-1 + 9999*100 + 1000", 900);
        sum("max(9999*9999, 1)/1000", 1000);
        sum("-min(-9999*9999, 1)/1000", 1000);
        sum("9999*9999/(9999*9999)", 1);
    }

    private static void division() {
        sum("7/2", 3);
        sum("-7/2 + 10", 7);
        sum("7/-2 + 10", 7);
        sum("-7/-2", 3);
        sum("-1/2 + 10", 10);
        sum("1/2", 0);
        sum("6/3", 2);
        sum("-6/3 + 10", 8);
        sum("7/0 + 5", 5);
        sum("-7/0 + 5", 5);
        sum("0/0 + 5", 5);
        sum("0/7 + 5", 5);
        sum("9999/0/0 + 5", 5);
        sum("8/(3-3)*9 + 5", 5);
        sum("5 + last/2", 5);
        sum("5 + last/1", 4);
    }

    private static LeaningWheel thrown(int... fell) {
        LeaningWheel x = new LeaningWheel(10);
        for (int p : fell) {
            x.write(2, 1, 0, p);
        }
        return x;
    }

    private static void run(LeaningWheel x, String way, int purse, int... due) {
        int text = Checks.read(x, way);
        for (int what = 0; what < 3; what++) {
            c.due("28: " + way + " from " + purse + ", what " + what, x.run(text, 2, 1, purse, what), due[what]);
        }
    }

    /** STAKE: 0 at least, the PURSE at most. */
    private static void stakes() {
        LeaningWheel x = thrown(3);
        run(x, "on 3; stake 0 - 1;", 50, 50, 50, 0);
        run(x, "on 3; stake 0;", 50, 50, 50, 0);
        run(x, "on 3; stake 1;", 50, 85, 50, 1);
        run(x, "on 3; stake 50;", 50, 50 + 50 * 35, 50, 1);
        run(x, "on 3; stake 51;", 50, 50 + 50 * 35, 50, 1);
        run(x, "on 4; stake 50;", 50, 0, 0, 0);
        LeaningWheel y = thrown(3, 3, 3);
        run(y, "on 4; stake 51;", 50, 0, 0, 0);
        run(y, "on 4; stake 49;", 50, 0, 0, 0);
        run(y, "on 4 - spin; stake purse;", 1, 0, 0, 0);
        run(y, "on 3 - spin; stake purse;", 1, 0, 0, 1);
        run(y, "on spin - 1; stake 5;", 20, 10, 10, 0);
        run(y, "on 2 + spin; stake 5;", 9999, 9999 - 5 + 175 - 5, 9994, 1);
    }

    /** lost and won: spins with a STAKE above 0 alone; without one lost stays. */
    private static void counted() {
        // Lost, nothing staked, lost, won, lost.
        LeaningWheel x = thrown(1, 1, 1, 7, 1);
        run(x, "on 7; stake min(1, max(spin, 1 - spin) - min(1, spin) * max(0, 2 - spin)) * (1 + lost * 10);", 1000,
                1000 - 1 - 11 + 35 * 21 - 1, 988, 1);
        // The same by on below 0 at the second spin.
        LeaningWheel y = thrown(1, 1, 1, 7, 1);
        run(y, "on 7 - 100 * min(spin, 1) * max(0, 2 - spin); stake 1 + lost * 10;", 1000,
                1000 - 1 - 11 + 35 * 21 - 1, 988, 1);
        // Where nothing is staked nothing is won.
        LeaningWheel z = thrown(7, 7, 7);
        run(z, "on 7; stake min(spin, 1) * (1 + won);", 100, 100 + 35 + 70, 100, 2);
        run(z, "on 7 - 8 * max(0, 1 - spin); stake 1 + won;", 100, 100 + 35 + 70, 100, 2);
        run(z, "on 7; stake won;", 100, 100, 100, 0);
        run(z, "on 6; stake lost;", 100, 100, 100, 0);
    }

    private static void richest() {
        LeaningWheel x = thrown(1, 1, 1, 1, 2);
        x.pays(99);
        run(x, "on 1; stake purse;", 9999, 0, 0, 4);
        run(x, "on 1; stake purse * max(0, 4 - spin);", 9999, 999999, 9999, 4);
        LeaningWheel y = thrown(1);
        y.pays(99);
        run(y, "on 1; stake purse;", 9999, 999900, 9999, 1);
        LeaningWheel z = thrown(1, 1);
        z.pays(99);
        run(z, "on 1; stake 9999 - 9998 * min(spin, 1);", 9999, 999999, 9999, 2);
        LeaningWheel w = thrown(1, 1);
        w.pays(98);
        // 9999 * 99 are 989901; 103 more at 98 to one are 10094, one at most is 98.
        run(w, "on 1; stake 9999 - 9998 * min(spin, 1);", 9999, 989999, 9999, 2);
        run(w, "on 1; stake 9999 - 9896 * min(spin, 1);", 9999, 999995, 9999, 2);
        run(w, "on 1; stake 9999 - 9895 * min(spin, 1);", 9999, 999999, 9999, 2);
    }

    /** most: of like ones the lowest; last and spin: of the spins ahead at that table that are not dozed. */
    private static void oftenest() {
        LeaningWheel x = thrown(9, NONE, 0, 0);
        // most: none, 9, 0 (0 and 9 once each).
        run(x, "", 10, 10 - 1 + 35, 9, 1);
        LeaningWheel y = thrown(0, 9, 9, 9);
        // most: none, 0, 0 (of like ones), 9.
        run(y, "stake 2;", 20, 20 - 2 - 2 + 70, 16, 1);
        LeaningWheel z = thrown(NONE, 5, NONE, 5, NONE);
        run(z, "on last;", 10, 45, 10, 1);
        run(z, "on 5; stake spin;", 10, 45, 10, 1);
        run(z, "on 5; stake 1 + spin;", 10, 10 + 35 + 70, 10, 2);
        z.write(2, 0, 0, 4);
        z.write(1, 1, 0, 4);
        z.write(2, 1, 0, 5);
        run(z, "on last; stake spin;", 10, 10 + 35 + 70, 10, 2);
    }

    /** Of like ways that with the lower WHEEL at the lowest table; of like POCKETS the lowest. */
    private static void lowestOfLike() {
        LeaningWheel x = new LeaningWheel(10);
        for (int table = 0; table < 3; table++) {
            x.write(1, table, 0, 5);
        }
        for (int table = 0; table < 3; table++) {
            c.due("18: like ones, table " + table, x.which(1, table), table);
        }
        c.due("18: SURE of 24 like ones, cut", x.which(1, NONE), 41);
        x.scratch(1, 1, 0);
        c.due("18: like ones beside the one told", x.which(1, 0), 1);
        c.due("18: then the next", x.which(1, 2), 2);
        c.due("18: SURE of 6", x.which(1, NONE), 166);
        c.due("18: 6 ways", x.which(1, -2), 6);
        x.scratch(1, 0, 3);
        x.scratch(1, 2, 2);
        c.due("18: one way", x.which(1, -2), 1);
        c.due("18: surely", x.which(1, NONE), 1000);
        // Both ways are like: 0 at table 0 and 1 at 2, or the other way about.
        LeaningWheel y = new LeaningWheel(10);
        y.pocket(0, 5, 10, 20);
        y.pocket(1, 5, 10, 20);
        y.write(0, 2, 0, 5);
        y.write(0, 0, 0, 5);
        c.due("18: the lower at the lowest table", y.which(0, 0), 0);
        c.due("18: the other at the next", y.which(0, 2), 1);
        y.pocket(1, 5, 10, 21);
        c.due("18: a product is as before", y.which(0, 0), 0);
        y.write(0, 0, 0, 5);
        c.due("18: more spins tell more", y.which(0, 0), 1);
        LeaningWheel z = new LeaningWheel(10);
        for (int p : new int[] {9, 9, 3, 3, 0, 7}) {
            z.write(0, 0, 0, p);
        }
        int[][] nine = {{3, -1, -1}, {3, 9, -1}, {0, 3, 9}};
        for (int j = 1; j <= 3; j++) {
            for (int i = 0; i < j; i++) {
                c.due("20: of like ones the lowest, " + j + " of them", z.nine(0, j, 10 + i), nine[j - 1][i]);
            }
        }
        c.due("20: 4 of them", z.nine(0, 4, 12), 7);
        c.due("20: 5 of them", z.nine(0, 5, 11), 1);
    }

    /** Ways whose CHANCES are just the same by other LEANS, and all but the same. */
    private static void justLike() {
        LeaningWheel x = new LeaningWheel(37);
        for (int wheel = 0; wheel < 4; wheel++) {
            x.pocket(wheel, 0, 10, new int[] {3, 42, 49, 1}[wheel]);
            x.pocket(wheel, 1, 10, new int[] {3, 42, 36, 1}[wheel]);
            x.pocket(wheel, 2, 10, new int[] {96, 18, 17, 99}[wheel]);
        }
        for (int i = 0; i < 24; i++) {
            x.write(0, 2, 0, i % 2);
        }
        // 42 * 42 is 49 * 36, of 442 together each.
        c.due("36: the sums of LEANS", x.about(21) - x.about(22), 0);
        c.due("18: 24 spins, just like, the lower WHEEL", x.which(0, 2), 1);
        // Hardly below a half, by what the others could have done.
        c.due("18: SURE of just like, cut", x.which(0, NONE), 499);
        x.pocket(1, 36, 10, 11);
        c.due("18: a LEAN elsewhere, by one", x.which(0, 2), 2);
        x.pocket(2, 36, 10, 12);
        c.due("18: by two", x.which(0, 2), 1);
        x.pocket(1, 36, 10, 12);
        x.pocket(1, 0, 10, 41);
        x.pocket(1, 2, 10, 19);
        c.due("18: a LEAN by one", x.which(0, 2), 2);
    }

    private static void cutOdds() {
        int[][] ones = {{5, 200000}, {6, 166666}, {7, 142857}, {9, 111111}, {11, 90909}, {12, 83333}, {37, 27027}};
        for (int[] o : ones) {
            LeaningWheel x = new LeaningWheel(o[0]);
            c.due("21: 1 of " + o[0] + ", cut", x.above(1, 1, 1), o[1]);
            c.due("22: 1 of " + o[0] + ", one of all", x.among(1, 1, 1), 1000000);
            c.due("27: 1 of " + o[0] + ", cut", x.luck(1, 1, 1, 1), o[1]);
        }
        LeaningWheel x = new LeaningWheel(6);
        // 7 / 36 is 194444.4, 35 / 36 is 972222.2; 2 of 2 in one told is 1 / 36, 6 times so 1 / 6.
        c.due("21: 2 of 2 in 1", x.above(2, 2, 1), 27777);
        c.due("22: 2 of 2 in any 1", x.among(2, 2, 1), 166666);
        c.due("22: 3 of 3 in any 1", x.among(3, 3, 1), 27777);
        c.due("22: 8 of 8 in any 1", x.among(8, 8, 1), 3);
        c.due("21: 8 of 8 in one", x.above(8, 8, 1), 0);
        c.due("22: 3 of 3 in any 2, 15 / 27", x.among(3, 3, 2), 555555);
        c.due("22: 2 of 2 in any 2, 15 / 9", x.among(2, 2, 2), 1000000);
        c.due("27: 2 of 2 days, 1 / 36", x.luck(2, 2, 1, 1), 27777);
        c.due("27: 1 of 2 days, 11 / 36", x.luck(2, 1, 1, 1), 305555);
        c.due("27: 0 of 2 days", x.luck(2, 0, 1, 1), 1000000);
        c.due("27: 4 of 4 days, none asked", x.luck(4, 4, 20, 0), 1000000);
        c.due("27: 3 of 4 days, 21 / 1296", x.luck(4, 3, 1, 1), 16203);
        c.due("27: 4 of 4 days, 1 / 1296", x.luck(4, 4, 1, 1), 771);
        c.due("27: 20 of 20", x.luck(1, 1, 20, 20), 0);
        c.due("27: 1 of 20", x.luck(1, 1, 20, 1), x.above(20, 1, 1));
    }

    /** What would be above 1000000 is that. */
    private static void fullOdds() {
        LeaningWheel x = new LeaningWheel(10);
        c.due("22: 10 times 1 / 10", x.among(1, 1, 1), 1000000);
        c.due("22: 45 times 36 / 100", x.among(2, 1, 2), 1000000);
        c.due("22: 10 times 1 / 100", x.among(2, 2, 1), 100000);
        c.due("22: sets of 9 of 10", x.among(60, 60, 9), 17970);
        c.due("22: 0 or more", x.among(60, 0, 9), 1000000);
        LeaningWheel y = thrown(0, 3, 6);
        c.due("25: 10 times 1 / 100", y.habit(0, 1, 3), 100000);
        c.due("25: 10 times 4 / 100", y.habit(0, 2, 3), 400000);
        c.due("25: 10 times 9 / 100", y.habit(0, 3, 3), 900000);
        c.due("25: 10 times 16 / 100", y.habit(0, 4, 3), 1000000);
        LeaningWheel z = thrown(0, 3);
        c.due("25: 10 times 1 / 10", z.habit(0, 1, 3), 1000000);
        // 7 times 1 / 7 to the second is 142857.1; 7 times 20408 would be 142856.
        LeaningWheel w = new LeaningWheel(7);
        w.write(0, 0, 0, 1);
        w.write(0, 0, 0, 2);
        w.write(0, 0, 0, 3);
        c.due("25: not cut ahead of N times", w.habit(0, 1, 3), 142857);
        c.due("20: AMONG of NINE", w.nine(0, 1, 1), 1000000);
        c.due("20: AMONG of three", w.nine(0, 3, 1), 1000000);
    }

    private static void span(int n, int x, int told, int least, int most) {
        LeaningWheel wheel = new LeaningWheel(5);
        c.due("23: " + n + " " + x + " " + told + ", least", wheel.span(n, x, told, false), least);
        c.due("23: " + n + " " + x + " " + told + ", greatest", wheel.span(n, x, told, true), most);
    }

    /** So likely as 1 / told or more: just so likely is in it. */
    private static void spanEnds() {
        span(1, 1, 2, 500, 1000);
        span(1, 1, 4, 250, 1000);
        span(1, 1, 3, 334, 1000);
        span(1, 1, 500, 2, 1000);
        span(1, 1, 501, 2, 1000);
        span(1, 1, 499, 3, 1000);
        span(1, 1, 1000000, 1, 1000);
        span(1, 0, 4, 0, 750);
        span(1, 0, 3, 0, 666);
        span(1, 0, 1000, 0, 999);
        span(1, 0, 999, 0, 998);
        span(2, 2, 4, 500, 1000);
        span(2, 0, 4, 0, 500);
        span(2, 2, 100, 100, 1000);
        span(2, 2, 101, 100, 1000);
        span(2, 2, 99, 101, 1000);
        span(3, 3, 8, 500, 1000);
        span(3, 0, 8, 0, 500);
        span(2, 1, 2, 293, 707);
        span(60, 60, 2, 989, 1000);
        span(60, 0, 2, 0, 11);
        span(60, 1, 2, 12, 27);
    }

    private static void need(int pockets, int q, int told, int sure, int n, int k) {
        LeaningWheel x = new LeaningWheel(pockets);
        String call = "24: " + q + " " + told + " " + sure + " of " + pockets;
        c.due(call + ", n", x.need(q, told, sure, 0), n);
        c.due(call + ", k", x.need(q, told, sure, 1), k);
    }

    /** At most 1 / told, S thousandths or more: just so likely is enough for both. */
    private static void needEnds() {
        need(5, 500, 5, 500, 1, 1);
        need(5, 500, 6, 250, 2, 2);
        need(5, 500, 25, 250, 2, 2);
        need(5, 500, 26, 125, 3, 3);
        need(5, 500, 5, 501, 4, 2);
        need(5, 499, 5, 500, 4, 2);
        need(5, 100, 5, 100, 1, 1);
        need(5, 300, 25, 90, 2, 2);
        need(5, 999, 1000000, 1, 9, 9);
        need(5, 1, 2, 1, 1, 1);
        need(5, 1, 6, 1, -1, -1);
        need(37, 999, 2, 999, 1, 1);
        need(10, 500, 1000000, 1, 6, 6);
    }

    private static void goal(int pay, int[] call, int millionths, int stake) {
        LeaningWheel x = new LeaningWheel(37);
        x.pays(pay);
        String told = "26: at " + pay + " " + java.util.Arrays.toString(call);
        c.due(told + ", odds", x.goal(call[0], call[1], call[2], call[3], 0), millionths);
        c.due(told + ", STAKE", x.goal(call[0], call[1], call[2], call[3], 1), stake);
    }

    private static void goals() {
        // All of 5 in 3 bets that pay one to one: q * q * q, cut.
        goal(1, new int[] {5, 40, 3, 999}, 997002, 5);
        goal(1, new int[] {5, 40, 3, 1}, 0, 5);
        goal(1, new int[] {5, 40, 3, 333}, 36926, 5);
        goal(1, new int[] {5, 40, 3, 0}, 0, 0);
        goal(1, new int[] {5, 40, 2, 999}, 0, 0);
        goal(1, new int[] {10, 40, 2, 999}, 998001, 10);
        goal(1, new int[] {20, 40, 1, 999}, 999000, 20);
        goal(1, new int[] {19, 40, 1, 999}, 0, 0);
        goal(1, new int[] {39, 40, 1, 500}, 500000, 1);
        goal(1, new int[] {39, 40, 1, 1000}, 1000000, 1);
        goal(1, new int[] {40, 40, 10, 0}, 1000000, 0);
        goal(1, new int[] {0, 1, 10, 1000}, 0, 0);
        goal(1, new int[] {1, 1, 0, 0}, 1000000, 0);
        goal(1, new int[] {1, 2, 0, 1000}, 0, 0);
        goal(1, new int[] {1, 2, 1, 1000}, 1000000, 1);
        goal(1, new int[] {40, 1, 1, 500}, 1000000, 0);
        // 40 at most is had, and enough.
        goal(99, new int[] {1, 40, 1, 7}, 7000, 1);
        goal(39, new int[] {1, 40, 1, 7}, 7000, 1);
        goal(38, new int[] {1, 40, 1, 7}, 0, 0);
        goal(38, new int[] {2, 40, 1, 7}, 7000, 1);
        goal(2, new int[] {13, 40, 1, 7}, 0, 0);
        goal(2, new int[] {14, 40, 1, 7}, 7000, 13);
    }

    /** The first STAKE, of like ones the least; what was had ahead of the end counts. */
    private static void goalTies() {
        goal(35, new int[] {10, 11, 1, 500}, 500000, 1);
        goal(35, new int[] {10, 11, 2, 500}, 750000, 1);
        goal(35, new int[] {1, 2, 10, 500}, 500000, 0);
        goal(35, new int[] {10, 40, 10, 1000}, 1000000, 0);
        goal(35, new int[] {10, 40, 1, 1000}, 1000000, 1);
        goal(35, new int[] {10, 40, 10, 0}, 0, 0);
        goal(1, new int[] {10, 11, 2, 500}, 750000, 1);
        goal(1, new int[] {2, 3, 2, 500}, 500000, 0);
        goal(1, new int[] {2, 3, 1, 500}, 500000, 1);
        goal(1, new int[] {1, 3, 2, 500}, 250000, 1);
        goal(1, new int[] {1, 3, 3, 500}, 250000, 0);
    }

    /** Odds far below a millionth tell too which STAKE is the best: a thousandth, up to ten times over. */
    private static void tinyGoals() {
        int[][] stakes = {{1, 1, 40, 6, 1}, {1, 1, 40, 7, 1}, {1, 1, 40, 8, 0}, {1, 1, 40, 10, 1}, {1, 2, 40, 10, 2},
            {1, 3, 40, 10, 0}, {1, 1, 32, 5, 1}, {1, 1, 32, 6, 0}, {2, 1, 40, 7, 0}, {2, 1, 40, 8, 1}, {2, 1, 40, 10, 0},
            {2, 1, 17, 10, 1}, {3, 1, 40, 6, 1}, {3, 1, 40, 7, 1}, {3, 1, 40, 8, 0}, {3, 1, 40, 10, 1}, {3, 2, 40, 10, 0}};
        for (int[] s : stakes) {
            goal(s[0], new int[] {s[1], s[2], s[3], 1}, 0, s[4]);
        }
        goal(1, new int[] {1, 40, 5, 1}, 0, 0);
        // STAKES whose odds are all but like ones.
        int[][] hardly = {{1, 2, 28, 8, 5, 0, 0}, {3, 5, 24, 7, 5, 123, 0}, {2, 4, 31, 9, 2, 4, 0}, {1, 12, 30, 8, 5, 49, 0},
            {3, 7, 35, 9, 7, 241, 0}, {3, 3, 15, 10, 12, 702, 0}, {1, 12, 38, 10, 9, 81, 7}, {3, 5, 32, 10, 20, 1184, 1},
            {1, 12, 30, 10, 15, 446, 3}, {1, 6, 28, 9, 20, 16, 1}, {1, 5, 24, 8, 998, 999999, 1},
            {2, 10, 36, 10, 6, 142, 1}};
        for (int[] h : hardly) {
            goal(h[0], new int[] {h[1], h[2], h[3], h[4]}, h[5], h[6]);
        }
    }

    /** What was asked ahead does not show. */
    private static void goalAgain() {
        LeaningWheel x = new LeaningWheel(10);
        for (int i = 0; i < 2; i++) {
            c.due("26: a STAKE", x.goal(1, 36, 1, 1000, 1), 1);
            c.due("26: none without bets", x.goal(1, 36, 0, 1000, 1), 0);
            c.due("26: nor odds", x.goal(1, 36, 0, 1000, 0), 0);
            c.due("26: a STAKE again", x.goal(2, 40, 10, 7, 1), 0);
            c.due("26: none as it is had", x.goal(40, 40, 10, 7, 1), 0);
            c.due("26: nor less than surely", x.goal(40, 1, 10, 7, 0), 1000000);
            c.due("26: a tiny one", x.goal(1, 36, 1, 1, 0), 1000);
        }
    }

    private static void luckyDays() {
        int[][] luck = {{37, 2, 1, 7, 1, 318586}, {37, 4, 1, 6, 1, 481893}, {37, 3, 2, 8, 1, 100977},
            {37, 4, 3, 12, 1, 69506}, {37, 4, 1, 20, 2, 345960}, {5, 4, 2, 14, 3, 761116}, {5, 4, 2, 20, 6, 174371}};
        for (int[] l : luck) {
            LeaningWheel x = new LeaningWheel(l[0]);
            c.due("27: " + java.util.Arrays.toString(l), x.luck(l[1], l[2], l[3], l[4]), l[5]);
        }
    }

    private static void days() {
        LeaningWheel x = new LeaningWheel(5);
        c.due("31: costs 0", x.house(20, 0, 0, 0, 0), 0);
        c.due("31: costs 9999 a day", x.house(20, 9999, 0, 9999, 0), 199980);
        c.due("31: K days are not played by then", x.house(20, 9999, 20, 9999, 0), 0);
        c.due("31: 19 are, on the last", x.house(20, 9999, 19, 9999, 0), 9999);
        c.due("31: and moving costs as much", x.house(20, 9999, 19, 9999, 1), 0);
        c.due("31: or one less", x.house(20, 9998, 19, 9999, 0), 9998);
        c.due("31: ahead of the second day, the lowest number", x.house(20, 9998, 19, 9999, 1), 2);
        c.due("31: it loses on the first day", x.house(1, 0, 0, 3, 0), 3);
        c.due("31: moving does not help there", x.house(1, 0, 0, 3, 1), 0);
        c.due("31: not on the first day", x.house(1, 0, 1, 3, 0), 0);
        c.due("31: on the second", x.house(2, 4, 1, 3, 0), 3);
        c.due("31: on the second, moved", x.house(2, 2, 1, 3, 0), 2);
        c.due("31: ahead of the second", x.house(2, 2, 1, 3, 1), 2);
        c.due("31: two days of K 2", x.house(2, 2, 2, 3, 0), 0);
    }

    /** Of like costs the lowest number, of which the lowest bit is the first day. */
    private static void movedDays() {
        LeaningWheel x = new LeaningWheel(5);
        c.due("31: none", x.house(3, 3, 1, 3, 1), 0);
        c.due("31: two losses", x.house(3, 3, 1, 3, 0), 6);
        c.due("31: both days", x.house(3, 2, 1, 3, 1), 6);
        c.due("31: one move between, ahead of day 2 or 3", x.house(4, 1, 2, 9, 1), 4);
        c.due("31: its cost", x.house(4, 1, 2, 9, 0), 1);
        c.due("31: ahead of day 2 of 3", x.house(3, 1, 2, 9, 1), 2);
        c.due("31: every third", x.house(9, 1, 3, 9, 1), 1 << 3 | 1 << 6);
        c.due("31: the last days", x.house(8, 1, 3, 9, 1), 1 << 2 | 1 << 5);
        c.due("31: as early as it can", x.house(7, 1, 3, 9, 1), 1 << 1 | 1 << 4);
        c.due("31: all but the first", x.house(20, 1, 1, 9999, 1), (1 << 20) - 2);
        c.due("31: moves that cost nothing", x.house(3, 0, 1, 1, 1), 6);
        c.due("31: nor do losses", x.house(20, 0, 1, 0, 1), 0);
    }

    private static void shoe(int[] seen, int... due) {
        LeaningWheel x = new LeaningWheel(5);
        for (int i = 0; i < seen.length; i += 2) {
            x.seen(seen[i], seen[i + 1]);
        }
        for (int what = 0; what < 4; what++) {
            c.due("33: what " + what + " of " + java.util.Arrays.toString(seen), x.shoe(what), due[what]);
        }
    }

    /** THE LEAST, then by C, A, B; the ends of each; cut towards 0. */
    private static void shoes() {
        shoe(new int[] {7, 0}, 0, 0, 0, 1);
        shoe(new int[] {7, 20}, 0, 0, 20, 1);
        shoe(new int[] {7, 21}, 0, 1, 14, 1);
        shoe(new int[] {1, 40}, 0, 20, 20, 1);
        shoe(new int[] {1, 41}, 1, 20, 20, 1);
        shoe(new int[] {30, 600}, 0, 20, 0, 1);
        shoe(new int[] {31, 600}, 0, 19, 11, 1);
        shoe(new int[] {21, 1, 41, 21}, 0, 1, -20, 1);
        shoe(new int[] {22, 1, 42, 21}, 2, 1, -20, 1);
        shoe(new int[] {999, 49}, 0, 1, -19, 20);
        shoe(new int[] {999, 50}, 0, 1, 1, 20);
        // Of like ones there is one of a lower A or B, but of a higher C: 1 17 3, 2 2 3, 1 8 14, 3 0 4, 2 17 5.
        shoe(new int[] {2, 6, 3, 1, 1, 11, 4, 20}, 23, 13, -14, 2);
        shoe(new int[] {3, 2, 2, 5, 3, 0, 5, 5}, 6, 3, -4, 2);
        shoe(new int[] {15, 1, 23, 4, 19, 1, 6, 1}, 2, 2, -18, 7);
        shoe(new int[] {3, 3, 1, 0, 5, 2, 4, 4}, 3, 4, -3, 3);
        shoe(new int[] {26, 13, 1, 1, 23, 19, 4, 10}, 14, 3, 4, 4);
    }
}
