import java.util.ArrayList;
import java.util.List;

/** States of a wheel, each told by calls of which none is refused, and all that later calls show of one. */
final class States {
    /** What a state is brought about by; an object can take it and be looked at within its 512 calls. */
    interface State {
        void tell(Object x);
    }

    private States() {
    }

    static void fresh(Object x) {
        // A new object is as it is.
    }

    /** Something of each kind, and an image of other things. */
    static void some(Object x) {
        int n = Calls.answer(x, "about", 0);
        someWheels(x, n);
        someTexts(x);
        someStarts(x);
        somethingWritten(x, n);
        Calls.answer(x, "image");
        tell(x, "pocket", 1, 2, 4, 5);
        tell(x, "stud", 3, 0, 6, 0, 0, 4);
        tell(x, "tilt", 2, 37);
        tell(x, "late", 3, 3, 2, 1, 1);
        tell(x, "pays", 9);
        Calls.read(x, "on 4 - last; stake 1 + won;");
        tell(x, "law", 0);
        tell(x, "start", 1, 2, 40, 1, 2, 3);
        tell(x, "write", 1, 0, 2, 4);
        tell(x, "write", 0, 2, 3, 1);
        tell(x, "scratch", 1, 0, 2);
        tell(x, "bet", 2, 1, 1);
        tell(x, "seen", 30, 11);
        // What an image has not: the latest FAULT and the tape.
        Calls.read(x, "off 1; loss 12345;");
        Calls.type(x, "off 3; loss speed ");
    }

    private static void someWheels(Object x, int n) {
        tell(x, "pocket", 0, 0, 3, 20);
        tell(x, "pocket", 1, 1, 7, 30);
        tell(x, "pocket", 2, n - 1, 5, 40);
        tell(x, "pocket", 3, 2, 9, 5);
        tell(x, "stud", 0, 1, 1, 2, 3, 4);
        tell(x, "stud", 1, 2, 4, 3, 2, 1);
        tell(x, "stud", 2, 7, 0, 10, 0, 0);
        tell(x, "tilt", 0, 10);
        tell(x, "tilt", 1, 20);
        tell(x, "tilt", 3, 40);
        tell(x, "late", 4, 3, 2, 1, 0);
        tell(x, "pays", 7);
    }

    private static void someTexts(Object x) {
        Calls.read(x, "off 5 + tilt / 10; loss 1 + side / 2; stake 2 + lost; on last;");
        Calls.read(x, "stake 3; on most;");
    }

    private static void someStarts(Object x) {
        tell(x, "start", 0, 0, 12, 0, 3, 1);
        tell(x, "start", 0, 9, 20, 5, 0, 9);
        tell(x, "start", 1, 30, 9, 2, 1, 2);
        tell(x, "start", 3, 1, 60, 11, 7, 4);
    }

    private static void somethingWritten(Object x, int n) {
        int[][] written = {{0, 0, 0, 1}, {0, 0, 1, 1}, {0, 1, 2, 3}, {0, 1, 3, n - 1}, {0, 2, 0, 0}, {0, 2, 1, -1},
            {0, 0, 2, 2}, {1, 1, 3, 2}, {1, 1, 0, 0}, {2, 0, 1, 1}, {2, 0, 0, 2}, {2, 2, 0, -1}};
        for (int[] w : written) {
            tell(x, "write", w);
        }
        tell(x, "scratch", 0, 1, 2);
        tell(x, "scratch", 3, 0, 1);
        tell(x, "bet", 0, 0, 1);
        tell(x, "bet", 1, 0, 2);
        tell(x, "bet", 1, 4, 0);
        tell(x, "bet", 3, 9, 1);
        tell(x, "seen", 10, 5);
        tell(x, "seen", 20, 9);
    }

    /** Every row full. */
    static void full(Object x) {
        for (int hand = 0; hand < 4; hand++) {
            for (int i = 0; i < 6; i++) {
                tell(x, "start", hand, 5 * hand, 10 + i, i, hand, i + 1);
            }
        }
        for (int i = 0; i < 96; i++) {
            tell(x, "write", i % 4, i % 3, i / 8 % 4, i % 7 == 6 ? -1 : i % 5);
        }
        for (int i = 0, bets = 0; bets < 60; i++) {
            if (i % 7 != 6) {
                tell(x, "bet", i % 4, i, i % 3);
                bets++;
            }
        }
        for (int i = 1; i <= 20; i++) {
            tell(x, "seen", 49 * i, 30 * i);
        }
        for (int i = 0; i < 6; i++) {
            Calls.read(x, i == 0 ? "stake 1;" : "on " + i + ";");
        }
        for (int i = 0; i < 15; i++) {
            tell(x, "feed", 0x20202020, 0x0a202020, 0x20202020, 0x20202020, 0x20202020);
        }
    }

    private static void tell(Object x, String name, int... args) {
        int got = Calls.answer(x, name, args);
        boolean answersBoolean = "pocket stud tilt late pays law scratch".contains(name);
        if (answersBoolean ? got != 1 : got < 0) {
            throw new IllegalStateException(Calls.told(name, args) + " is refused");
        }
    }

    /** All that later calls show, by 267 calls; the looking changes the law, the tape and the latest FAULT. */
    static List<Integer> look(Object x) {
        List<Integer> seen = new ArrayList<>();
        int n = Calls.answer(x, "about", 0);
        abouts(x, seen);
        drops(x, n, seen);
        books(x, n, seen);
        runs(x, seen);
        ask(x, seen, "text");
        ask(x, seen, "fault", 0);
        ask(x, seen, "fault", 1);
        return seen;
    }

    private static void ask(Object x, List<Integer> seen, String name, int... args) {
        seen.add(Calls.answer(x, name, args));
    }

    private static void abouts(Object x, List<Integer> seen) {
        for (int what = 0; what < 24; what++) {
            ask(x, seen, "about", what);
        }
        ask(x, seen, "fault", 0);
        ask(x, seen, "fault", 1);
    }

    private static void drops(Object x, int n, List<Integer> seen) {
        for (int wheel = 0; wheel < 4; wheel++) {
            for (int stud = 0; stud < 8; stud++) {
                int point = (stud + 7) % 8 * n;
                int first = stud * n / 8;
                for (int on = 0; on < 3; on++) {
                    ask(x, seen, "drop", wheel, point, 1, 0, 0, 100 + (first + on) % n);
                }
            }
            ask(x, seen, "drop", wheel, 0, 1, n + 8, 0, 99 + n);
            ask(x, seen, "drop", wheel, 0, 60, 3, 2, 0);
        }
        for (int what = 0; what < 13; what++) {
            ask(x, seen, "foretold", 0, 0, 1, 0, 8, what < 3 ? what : 97 + what);
        }
        for (int hand = 0; hand < 4; hand++) {
            for (int pocket = -1; pocket < 5; pocket++) {
                ask(x, seen, "odds", 0, hand, pocket);
            }
        }
        ask(x, seen, "law", 0);
        for (int wheel = 0; wheel < 4; wheel++) {
            ask(x, seen, "drop", wheel, 0, 60, 3, 2, 0);
        }
    }

    private static void books(Object x, int n, List<Integer> seen) {
        for (int i = 0; i < 4; i++) {
            for (int table = -2; table < 3; table++) {
                ask(x, seen, "which", i, table);
            }
            for (int pocket = -1; pocket < 5; pocket++) {
                ask(x, seen, "falls", i, pocket < 4 ? pocket : n - 1);
            }
            for (int what = 0; what < 3; what++) {
                ask(x, seen, "habit", i, 1, what);
                ask(x, seen, "watched", i, what);
            }
            ask(x, seen, "shoe", i);
        }
        ask(x, seen, "nine", 0, 2, 10);
        ask(x, seen, "nine", 0, 2, 11);
    }

    private static void runs(Object x, List<Integer> seen) {
        for (int text = 0; text < 6; text++) {
            ask(x, seen, "run", text, 0, 0, 100, 0);
        }
        for (int at = 1; at < 12; at++) {
            ask(x, seen, "run", 1, at / 3, at % 3, 100, 0);
        }
    }
}
