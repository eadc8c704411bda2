import java.util.Arrays;
import java.util.List;

/** Promises 34 and 35: what an image has and has not, one thing at a time. */
public final class KeptTest {
    private static final Checks c = new Checks();
    private static final int N = 10;

    /** Calls of which each changes one thing of the state that States.some brings about. */
    private static final Object[][] CHANGES = {
        {"pocket", 0, 0, 8, 20}, {"pocket", 3, 9, 10, 77}, {"pocket", 2, 5, 1, 10},
        {"stud", 0, 0, 9, 1, 0, 0}, {"stud", 3, 7, 0, 0, 0, 10}, {"stud", 1, 2, 4, 3, 1, 2}, {"stud", 1, 2, 3, 4, 2, 1},
        {"tilt", 0, 50}, {"tilt", 3, 99},
        {"late", 10, 0, 0, 0, 0}, {"late", 3, 3, 2, 0, 2}, {"late", 3, 3, 1, 2, 1}, {"late", 3, 2, 3, 1, 1},
        {"pays", 10}, {"law", 1}, {"law", -1},
        {"start", 0, 7, 30, 2, 1, 9}, {"start", 3, 0, 5, 0, 0, 1},
        {"write", 0, 0, 0, 4}, {"write", 3, 2, 3, 9}, {"write", 2, 1, 1, -1},
        {"scratch", 0, 1, -1}, {"scratch", 3, 2, 1}, {"scratch", 1, 1, 3},
        {"bet", 0, 9, 1}, {"bet", 3, 2, 0}, {"seen", 500, 20}};

    public static void main(String[] args) {
        for (Object[] change : CHANGES) {
            goesBack(change);
            isKept(change);
            showsAtOnce(change);
        }
        textsGoBack();
        textsAreKept();
        tapeStays();
        faultStays();
        imageStays();
        ofManyImages();
        c.close();
    }

    private static int call(Object x, Object[] change) {
        int[] args = new int[change.length - 1];
        for (int i = 1; i < change.length; i++) {
            args[i - 1] = (Integer) change[i];
        }
        return Calls.answer(x, (String) change[0], args);
    }

    private static LeaningWheel some() {
        LeaningWheel x = new LeaningWheel(N);
        States.some(x);
        return x;
    }

    private static List<Integer> shownBehindSome() {
        LeaningWheel x = some();
        x.image();
        x.back();
        return States.look(x);
    }

    /** What was changed behind the image is as ahead of it. */
    private static void goesBack(Object[] change) {
        String name = Arrays.toString(change);
        LeaningWheel changed = some();
        c.due("taken: " + name, call(changed, change) > 0, true);
        c.due("shows: " + name, States.look(changed).equals(States.look(some())), false);
        LeaningWheel x = some();
        x.image();
        call(x, change);
        x.back();
        c.due("35: all is so again behind " + name, States.look(x).equals(shownBehindSome()), true);
        LeaningWheel y = some();
        y.image();
        call(y, change);
        // What was asked meanwhile is not kept for later.
        States.look(y);
        y.back();
        LeaningWheel z = some();
        z.image();
        States.look(z);
        z.back();
        c.due("35: all is so again behind looks and " + name, y.which(0, 0) == z.which(0, 0)
                && y.falls(2, -1) == z.falls(2, -1) && y.shoe(0) == z.shoe(0) && y.habit(0, 1, 1) == z.habit(0, 1, 1), true);
    }

    /** What was changed ahead of the image is as changed, whatever comes behind it. */
    private static void isKept(Object[] change) {
        LeaningWheel x = some();
        call(x, change);
        x.image();
        changeAll(x);
        x.back();
        LeaningWheel y = some();
        call(y, change);
        c.due("34: as all is now, with " + Arrays.toString(change), States.look(x).equals(States.look(y)), true);
    }

    /** What was asked ahead of a change is told anew behind it. */
    private static void showsAtOnce(Object[] change) {
        LeaningWheel x = some();
        for (int i = 0; i < 4; i++) {
            x.which(i, -1);
            x.falls(i, -1);
            x.nine(i, 2, 10);
            x.habit(i, 1, 1);
            x.watched(i, 1);
            x.odds(i, 0, 1);
            x.shoe(i);
            x.drop(i, 5, 30, 1, 2, 0);
            x.foretold(i, 5, 30, 1, 2, 1);
            x.run(1, i, 0, 50, 0);
        }
        call(x, change);
        LeaningWheel y = some();
        call(y, change);
        c.due("asked ahead of " + Arrays.toString(change), States.look(x).equals(States.look(y)), true);
    }

    private static void changeAll(LeaningWheel x) {
        for (Object[] other : CHANGES) {
            call(x, other);
        }
    }

    private static void textsGoBack() {
        LeaningWheel x = some();
        x.image();
        c.due("9: a fourth TEXT", Checks.read(x, "stake 9; on 3;"), 3);
        x.law(3);
        c.due("35: how many are WRITTEN", x.back(), 14);
        c.due("36: TEXTS", x.about(1), 3);
        c.due("36: THE LAW", x.about(2), 0);
        c.due("11: the fourth is gone", x.law(3), false);
        c.due("28: the fourth is gone", x.run(3, 0, 0, 100, 0), -1);
        c.due("9: another fourth", Checks.read(x, "off 9;"), 3);
        // Of 1, 1, 2: nothing, 1 won at 9 to one, 1 lost.
        c.due("28: it is another", x.run(3, 0, 0, 100, 0), 108);
    }

    private static void textsAreKept() {
        LeaningWheel x = new LeaningWheel(N);
        Checks.read(x, "off 20; loss 2;");
        x.law(0);
        x.image();
        x.law(-1);
        x.back();
        c.due("35: THE LAW is so again", x.about(2), 0);
        c.due("35: by its off and loss", x.drop(0, 0, 27, 0, 0, 0), 4);
        // Without texts in the image another one takes the same number.
        LeaningWheel y = new LeaningWheel(N);
        Checks.read(y, "off 20; loss 2; on 3;");
        y.law(0);
        y.back();
        c.due("35: no TEXTS", y.about(1), 0);
        c.due("35: no LAW", y.about(2), -1);
        c.due("9: the first again", Checks.read(y, "stake 2;"), 0);
        y.law(0);
        c.due("12: without loss 1, without off 8", y.drop(0, 0, 20, 0, 0, 0), 12);
        y.write(0, 0, 0, 3);
        c.due("28: without on most", y.run(0, 0, 0, 10, 0), 10);
    }

    private static void tapeStays() {
        LeaningWheel x = new LeaningWheel(N);
        Checks.type(x, "off 3; off");
        x.image();
        Checks.type(x, "off 12345;");
        x.feed(0x20202020, 0x20202020, 0x20202020, 0x20202020, 0x20202020);
        x.back();
        c.due("35: not the tape's bytes", x.about(6), 30);
        c.due("35: not what they are", x.text(), -1);
        c.due("10: theirs is FAULT 2", x.fault(0), 2);
        Checks.type(x, "loss 7;");
        x.image();
        x.text();
        c.due("36: the tape is empty", x.about(6), 0);
        x.back();
        c.due("35: and stays so", x.about(6), 0);
        c.due("36: without the TEXT", x.about(1), 0);
    }

    private static void faultStays() {
        LeaningWheel x = new LeaningWheel(N);
        Checks.read(x, "off 3; off 4;");
        x.image();
        Checks.read(x, "off purse;");
        x.back();
        c.due("35: not the latest FAULT", x.fault(0), 5);
        c.due("35: not its place", x.fault(1), 4);
        Checks.read(x, "off 5;");
        x.back();
        c.due("35: nor that there is none", x.fault(0), 0);
        c.due("35: nor its place", x.fault(1), -1);
        LeaningWheel y = new LeaningWheel(N);
        Checks.read(y, "4");
        y.back();
        c.due("35: nor that there was none ahead", y.fault(0), 1);
    }

    private static void imageStays() {
        LeaningWheel x = some();
        List<Integer> shown = shownBehindSome();
        x.image();
        for (int i = 0; i < 2; i++) {
            changeAll(x);
            c.due("35: how many are WRITTEN, time " + i, x.back(), 14);
        }
        changeAll(x);
        x.back();
        c.due("35: it stays", States.look(x).equals(shown), true);
    }

    private static void ofManyImages() {
        LeaningWheel x = new LeaningWheel(N);
        c.due("34: how many are WRITTEN", x.image(), 0);
        x.write(0, 0, 0, 1);
        c.due("34: one", x.image(), 1);
        x.write(0, 0, 0, -1);
        c.due("34: dozed ones too", x.image(), 2);
        x.write(0, 0, 0, 1);
        c.due("35: to the latest image", x.back(), 2);
        c.due("34: the image of an image", x.image(), 2);
        c.due("35: back twice", x.back(), 2);
        c.due("36: WRITTEN", x.about(3), 2);
    }
}
