/** Each one of many: each POCKET, STUD, WHEEL and table has its own; each of a full row counts; each NAME is what it is. */
public final class EachTest {
    private static final Checks c = new Checks();
    private static final int NONE = -1;
    private static final int N = 37;

    public static void main(String[] args) {
        eachPocket();
        eachStud();
        eachTilt();
        eachLate();
        eachStart();
        eachScratch();
        eachSpin();
        eachAlone();
        eachSpinTells();
        eachBet();
        eachSeen();
        eachOfNine();
        namesOfLaws();
        namesOfStakes();
        namesOfPockets();
        betweenSpins();
        c.close();
    }

    /** OFF at once at STUD 1; the DISH puts the POCKET under it. */
    private static int held(LeaningWheel x, int wheel, int pocket) {
        return x.drop(wheel, 0, 1, Math.floorMod(N - 8 * pocket, 8 * N), 0, 100 + pocket);
    }

    private static int hold(int wheel, int pocket) {
        return 1 + (wheel * 5 + pocket * 7) % 10;
    }

    private static int lean(int wheel, int pocket) {
        return 1 + (wheel * 31 + pocket * 13) % 99;
    }

    private static void eachPocket() {
        for (int wheel = 0; wheel < 4; wheel++) {
            LeaningWheel x = new LeaningWheel(N);
            int leans = 0;
            for (int p = 0; p < N; p++) {
                c.due("2: POCKET " + p, x.pocket(wheel, p, hold(wheel, p), lean(wheel, p)), true);
                leans += lean(wheel, p);
            }
            x.image();
            for (int p = 0; p < N; p++) {
                c.due("2: its HOLD", held(x, wheel, p), 100 * hold(wheel, p));
                c.due("2: not of another WHEEL", held(x, (wheel + 1) % 4, p), 1000);
                x.pocket(wheel, p, 10, 99);
            }
            x.back();
            for (int p = 0; p < N; p++) {
                c.due("35: HOLD of " + p + " again", held(x, wheel, p), 100 * hold(wheel, p));
                c.due("35: LEANS again, to " + p, x.about(20 + wheel), leans);
                x.pocket(wheel, p, 10, 10);
                leans += 10 - lean(wheel, p);
            }
            for (int other = 0; other < 4; other++) {
                c.due("36: LEANS of WHEEL " + other, x.about(20 + other), 10 * N);
            }
        }
    }

    /** Of STUD s the tenths s, 1, 0 and what is left; by turns the first of them is at another place. */
    private static int skip(int stud, int on, int turn) {
        int[] tenths = {stud, 1, 0, 9 - stud};
        return tenths[(on + turn) % 4];
    }

    private static void eachStud() {
        for (int wheel = 0; wheel < 4; wheel++) {
            for (int turn = 0; turn < 4; turn++) {
                LeaningWheel x = new LeaningWheel(N);
                for (int stud = 0; stud < 8; stud++) {
                    c.due("3: STUD " + stud, x.stud(wheel, stud, skip(stud, 0, turn), skip(stud, 1, turn),
                            skip(stud, 2, turn), skip(stud, 3, turn)), true);
                }
                x.image();
                eachSkip("3", x, wheel, turn);
                for (int stud = 0; stud < 8; stud++) {
                    x.stud(wheel, stud, 3, 3, 2, 2);
                }
                x.back();
                eachSkip("35", x, wheel, turn);
            }
        }
    }

    private static void eachSkip(String promise, LeaningWheel x, int wheel, int turn) {
        for (int stud = 0; stud < 8; stud++) {
            // The DISH at 0: it comes to the POCKET stud * N / 8.
            for (int on = 0; on < 4; on++) {
                int pocket = (stud * N / 8 + on) % N;
                int point = (stud + 7) % 8 * N;
                c.due(promise + ": SKIPS " + on + " of STUD " + stud + " of WHEEL " + wheel,
                        x.drop(wheel, point, 1, 0, 0, 100 + pocket), 100 * skip(stud, on, turn));
                c.due(promise + ": SKIPS of another WHEEL", x.drop((wheel + 1) % 4, point, 1, 0, 0, 100 + pocket),
                        on == 0 ? 1000 : 0);
            }
        }
    }

    private static void eachTilt() {
        for (int tilt = 0; tilt < 100; tilt++) {
            LeaningWheel x = new LeaningWheel(N);
            Checks.read(x, "off tilt;");
            x.law(0);
            for (int wheel = 0; wheel < 4; wheel++) {
                x.tilt(wheel, (tilt + 25 * wheel) % 100);
            }
            x.image();
            for (int time = 0; time < 2; time++) {
                for (int wheel = 0; wheel < 4; wheel++) {
                    int due = 500 - (tilt + 25 * wheel) % 100;
                    c.due("4: TILT of WHEEL " + wheel, x.drop(wheel, 0, 500, 0, 0, 0), due);
                    x.tilt(wheel, 0);
                }
                x.back();
            }
        }
    }

    /** OFF at once; each TENTH late puts the BALL a STUD further on, by N points and so by POCKETS of 8. */
    private static void eachLate() {
        int[][] lates = {{1, 2, 3, 4, 0}, {0, 1, 2, 3, 4}, {4, 0, 1, 2, 3}, {3, 4, 0, 1, 2}, {2, 3, 4, 0, 1}};
        for (int[] late : lates) {
            LeaningWheel x = new LeaningWheel(N);
            Checks.read(x, "off 999;");
            x.law(0);
            c.due("5: LATE", x.late(late[0], late[1], late[2], late[3], late[4]), true);
            x.image();
            x.late(0, 0, 5, 5, 0);
            x.back();
            for (int tenth = 0; tenth < 5; tenth++) {
                c.due("5: LATE of " + tenth, x.foretold(0, 0, N, 0, 0, 100 + (1 + tenth) * N / 8), 1000 * late[tenth]);
                // The BALL all round THE RING, the DISH 40 back: the POCKET is 5 further on.
                c.due("5: LATE of " + tenth + ", the DISH", x.foretold(0, 0, 8 * N, 0, 40, 100 + (N + 40 * tenth) / 8),
                        1000 * late[tenth]);
            }
        }
    }

    private static void eachStart() {
        LeaningWheel x = new LeaningWheel(N);
        int[] lower = new int[4];
        for (int hand = 0; hand < 4; hand++) {
            for (int i = 0; i < 6; i++) {
                int weight = 1 + (hand * 5 + i * 2) % 9;
                c.due("14: START " + i, x.start(hand, 0, 1, Math.floorMod(N - 8 * (5 * hand + i), 8 * N), 0, weight), i + 1);
                lower[hand] += 1000 * weight;
            }
        }
        for (int hand = 0; hand < 4; hand++) {
            c.due("15: the lower", x.odds(0, hand, NONE), lower[hand]);
            for (int i = 0; i < 6; i++) {
                int weight = 1 + (hand * 5 + i * 2) % 9;
                c.due("15: by START " + i, x.odds(hand, hand, 5 * hand + i), 1000 * weight);
            }
        }
    }

    private static void eachScratch() {
        for (int at = 0; at < 12; at++) {
            for (int wheel = 0; wheel < 4; wheel++) {
                LeaningWheel x = new LeaningWheel(N);
                for (int i = 0; i < 12; i++) {
                    x.write(i / 3, i % 3, 0, i);
                }
                c.due("17: a SCRATCH", x.scratch(at / 3, at % 3, wheel), true);
                for (int i = 0; i < 12; i++) {
                    int first = i % 3;
                    if (i / 3 == at / 3 && i == at) {
                        first = wheel;
                    } else if (i / 3 == at / 3) {
                        // The lowest two of the other WHEELS, at the other tables in their order.
                        first = i % 3 - (i > at ? 1 : 0);
                        first += first >= wheel ? 1 : 0;
                    }
                    c.due("18: table " + i % 3 + " of evening " + i / 3 + ", WHEEL " + wheel + " told of " + at,
                            x.which(i / 3, i % 3), first);
                }
            }
        }
    }

    /** 96 spins of one HAND at one table of each evening, each one POCKET on. */
    private static LeaningWheel written() {
        LeaningWheel x = new LeaningWheel(N);
        for (int i = 0; i < 96; i++) {
            c.due("16: spin " + i, x.write(i / 24, i / 24 % 3, 2, i % N), i + 1);
        }
        return x;
    }

    private static void eachSpin() {
        LeaningWheel x = written();
        for (int p = 0; p < N; p++) {
            c.due("19: FALLS in " + p, x.falls(0, p), p < 96 % N ? 3 : 2);
        }
        c.due("19: all FALLS", x.falls(0, NONE), 96);
        c.due("25: distances", x.habit(2, 1, 2), 95);
        c.due("25: each is 1", x.habit(2, 1, 0), 1);
        c.due("25: all are", x.habit(2, 1, 1), 95);
        for (int evening = 0; evening < 4; evening++) {
            int text = Checks.read(x, "on spin + " + 24 * evening + ";");
            c.due("28: each spin of evening " + evening, x.run(text, evening, evening % 3, 1, 2), 24);
            c.due("28: each pays", x.run(text, evening, evening % 3, 1, 0), 1 + 24 * 35);
        }
    }

    /** Of 96 spins the first and the last, each the only one at its table. */
    private static void eachAlone() {
        LeaningWheel x = new LeaningWheel(N);
        for (int i = 0; i < 96; i++) {
            x.write(i / 24, i == 0 || i == 95 ? 2 : 0, 0, 4);
        }
        for (int evening = 0; evening < 4; evening++) {
            boolean two = evening == 0 || evening == 3;
            c.due("18: alone at a table of evening " + evening, x.which(evening, 2), two ? 1 : NONE);
            c.due("18: ways of evening " + evening, x.which(evening, -2), two ? 12 : 4);
        }
        c.due("19: FALLS of those", x.falls(1, 4), 2);
        c.due("19: FALLS of the others", x.falls(0, 4), 94);
    }

    /** A LEAN of one more at one spin's POCKET makes another WHEEL the likeliest of that evening. */
    private static void eachSpinTells() {
        for (int i = 0; i < 96; i++) {
            LeaningWheel x = written();
            int evening = i / 24;
            c.due("18: of like WHEELS the lowest", x.which(evening, evening % 3), 0);
            x.pocket(1, i % N, 10, 11);
            c.due("18: by spin " + i, x.which(evening, evening % 3), 1);
        }
    }

    private static void eachBet() {
        for (int i = 0; i < 60; i++) {
            LeaningWheel x = new LeaningWheel(N);
            for (int spin = 0; spin < 60; spin++) {
                x.write(spin / 20, 0, 0, 7);
                c.due("29: BET " + spin, x.bet(spin % 4, spin, spin == i ? 7 : 8), spin + 1);
            }
            for (int bettor = 0; bettor < 4; bettor++) {
                c.due("30: how many", x.watched(bettor, 0), 15);
                c.due("30: BET " + i + " is won", x.watched(bettor, 1), i % 4 == bettor ? 1 : 0);
            }
        }
    }

    /** Half the SPEED fits all but one, which is one off. */
    private static void eachSeen() {
        for (int i = 0; i < 20; i++) {
            LeaningWheel x = new LeaningWheel(N);
            for (int s = 0; s < 20; s++) {
                x.seen(48 * (s + 1), 24 * (s + 1) + (s == i ? 1 : 0));
            }
            c.due("33: what was SEEN as number " + i, x.shoe(0), 1);
        }
    }

    private static void eachOfNine() {
        LeaningWheel x = new LeaningWheel(N);
        int[] most = {3, 4, 10, 11, 17, 20, 25, 30, 36};
        for (int i = 0; i < 45; i++) {
            int fell = most[i % 9];
            x.write(i / 20, 0, 0, fell);
        }
        x.write(3, 0, 0, 0);
        x.write(3, 0, 0, 35);
        for (int i = 0; i < 9; i++) {
            c.due("20: the " + i + ". of nine", x.nine(0, 9, 10 + i), most[i]);
        }
        c.due("20: FALLS of nine", x.nine(0, 9, 0), 45);
        c.due("20: of eight", x.nine(0, 8, 0), 40);
    }

    private static int off(String law, int wheel, int point, int speed) {
        LeaningWheel x = new LeaningWheel(N);
        c.due("9: reads " + law, Checks.read(x, law), 0);
        x.law(0);
        x.tilt(2, 99);
        return x.drop(wheel, point, speed, 0, 0, 0);
    }

    /** Each in both CLAUSES, to the greatest that it can be. */
    private static void namesOfLaws() {
        for (int point = 1; point < 8 * N; point += 7) {
            c.due("12: point in off, just", off("off point;", 0, point, point), 0);
            c.due("12: point in off, one above", off("off point * max(0, 1 - tenth);", 0, point, point + 1) > 0, true);
            c.due("12: point in loss, just", off("loss point; off 0;", 0, point, point), 1);
            c.due("12: point in loss, one above", off("loss point; off 0;", 0, point, point + 1), 2);
            int side = point / N;
            c.due("12: side in off", off("off side * 100 + 1;", 0, point, side * 100 + 1), 0);
            c.due("12: side in off, one above", off("off (side * 100 + 1) * max(0, 1 - tenth);", 0, point,
                    side * 100 + 2) > 0, true);
            c.due("12: side in loss", off("loss side * 100 + 2; off 0;", 0, point, side * 100 + 2), 1);
            c.due("12: side in loss, one above", off("loss side * 100 + 2; off 0;", 0, point, side * 100 + 3), 2);
        }
        for (int speed = 2; speed < 1000; speed++) {
            c.due("12: speed in loss", off("loss speed; off 0;", 0, 0, speed), 1);
            c.due("12: speed in loss, one is left", off("loss speed - 1; off 0;", 0, 0, speed), 2);
            c.due("12: speed in off", off("off speed;", 0, 0, speed), 0);
        }
        for (int tenth = 1; tenth < 600; tenth += 13) {
            c.due("12: tenth in off", off("off max(0, tenth - " + (tenth - 1) + ") * 1000;", 0, 0, 999), tenth);
            c.due("12: tenth in loss", off("loss 1 + max(0, tenth - " + (tenth - 1) + ") * 999; off 0;", 0, 0, 999), tenth + 1);
        }
        c.due("12: tilt in off", off("off tilt;", 2, 0, 100), 1);
        c.due("12: tilt in loss", off("loss tilt; off 0;", 2, 0, 100), 2);
        c.due("12: tilt in loss, just", off("loss tilt; off 0;", 2, 0, 99), 1);
        c.due("12: of another WHEEL", off("off tilt;", 1, 0, 100), 100);
    }

    private static LeaningWheel thrown(int... fell) {
        LeaningWheel x = new LeaningWheel(N);
        for (int p : fell) {
            x.write(1, 2, 3, p);
        }
        return x;
    }

    private static int run(LeaningWheel x, String way, int purse, int what) {
        int text = Checks.read(x, way);
        c.due("9: reads " + way, text >= 0, true);
        return x.run(text, 1, 2, purse, what);
    }

    private static int[] same(int pocket) {
        int[] fell = new int[24];
        java.util.Arrays.fill(fell, pocket);
        return fell;
    }

    private static void namesOfStakes() {
        int[] fell = new int[24];
        int lasts = 0;
        int mosts = 0;
        for (int i = 0; i < 24; i++) {
            fell[i] = 36 - i;
            lasts += i == 0 ? 0 : 36 - i + 1 + 1;
            // Each once: the lowest is the latest.
            mosts += i == 0 ? 0 : 36 - i + 1 + 1;
        }
        c.due("28: last", run(thrown(fell), "on 0; stake last + 1;", 9999, 0), 9999 - lasts);
        c.due("28: most", run(thrown(fell), "on 0; stake most + 1;", 9999, 0), 9999 - mosts);
        c.due("28: spin", run(thrown(fell), "on 0; stake spin;", 9999, 0), 9999 - 24 * 23 / 2);
        c.due("28: lost", run(thrown(fell), "on 0; stake 1 + lost;", 9999, 0), 9999 - 24 * 25 / 2);
        LeaningWheel x = thrown(same(9));
        x.pays(1);
        c.due("28: won", run(x, "on 9; stake 1 + won;", 10, 0), 10 + 24 * 25 / 2);
        c.due("28: purse", run(x, "on 9; stake purse / 2;", 100, 0), growth(100));
        c.due("28: purse, to the greatest", run(x, "on 9; stake purse;", 9999, 0), 999999);
        c.due("28: purse as it is by then", run(x, "on 8; stake (purse + 1) / 2;", 9999, 0), 0);
        // Nothing is staked any more as soon as there are 600000.
        c.due("28: purse above 9999", run(x, "on 9 - 10 * max(0, purse / 1000 - 599); stake purse;", 9999, 0), 9999 * 64);
    }

    private static int growth(int purse) {
        int v = purse;
        for (int i = 0; i < 24; i++) {
            v = Math.min(999999, v + v / 2);
        }
        return v;
    }

    /** Where on is a NAME each spin is won that falls where it tells. */
    private static void namesOfPockets() {
        int[] rising = new int[24];
        int[] purses = new int[24];
        int[] oftenest = new int[24];
        for (int i = 0; i < 24; i++) {
            rising[i] = i;
            purses[i] = (30 + i) % N;
            oftenest[i] = i % 2 == 0 ? 20 : 10 + i % 20;
        }
        c.due("28: on spin", run(thrown(rising), "on spin;", 5, 2), 24);
        c.due("28: on won", run(thrown(rising), "on won;", 5, 2), 24);
        LeaningWheel x = thrown(purses);
        x.pays(1);
        c.due("28: on purse", run(x, "on purse;", 30, 2), 24);
        c.due("28: on last", run(thrown(same(36)), "on last;", 5, 2), 23);
        int[] late = same(36);
        late[23] = 23;
        c.due("28: on lost", run(thrown(late), "on lost;", 50, 2), 1);
        // 20 at each second spin; behind the first two the other ones are never as often.
        c.due("28: on most", run(thrown(oftenest), "on most;", 50, 2), 10);
    }

    /** What stands between spins of a table and doesn't count there: dozed ones, other tables, other evenings. */
    private static void betweenSpins() {
        LeaningWheel x = new LeaningWheel(N);
        int[] fell = {1, 2, 2, 3, 36};
        for (int p : fell) {
            x.write(1, 2, 0, NONE);
            x.write(1, 1, 0, 5);
            x.write(2, 2, 0, 5);
            x.write(1, 2, 0, p);
            x.write(1, 2, 1, NONE);
        }
        c.due("28: lost", run(x, "on 0; stake 1 + lost;", 100, 0), 100 - 1 - 2 - 3 - 4 - 5);
        c.due("28: spin", run(x, "on 0; stake spin;", 100, 0), 100 - 1 - 2 - 3 - 4);
        c.due("28: last", run(x, "on 0; stake last;", 100, 0), 100 - 1 - 2 - 2 - 3);
        c.due("28: most", run(x, "on 0; stake most;", 100, 0), 100 - 1 - 1 - 2 - 2);
        // Nothing is staked on the first three, and still they are ahead of the others.
        LeaningWheel y = thrown(7, 7, 9, 7, 9);
        c.due("28: most of what was not staked", run(y, "on most; stake max(0, spin - 2);", 100, 0), 100 + 35 - 2);
        c.due("28: most by on below 0", run(y, "on most - 99 * max(0, 3 - spin); stake 1;", 100, 0), 100 + 35 - 1);
        c.due("28: last of what was not staked", run(y, "on last; stake max(0, 2 - spin) * min(1, spin);", 100, 0), 135);
        c.due("28: spins not staked count", run(y, "on 7; stake spin * max(0, spin - 2);", 100, 0), 100 + 3 * 35 - 8);
    }
}
