/** What the tests of the promises share: counting answers that are not due, and texts for the tape. */
final class Checks {
    private static final int TOLD = 60;
    private int wrong = 0;
    private int looked = 0;

    Checks() {
        Ends.inTime();
    }

    void due(String call, long got, long want) {
        looked++;
        if (got != want) {
            wrong++;
            if (wrong <= TOLD) {
                System.out.println(call + " answered " + got + ", due is " + want);
            }
        }
    }

    void due(String call, boolean got, boolean want) {
        due(call, got ? 1 : 0, want ? 1 : 0);
    }

    /** Ends the program, with 1 if an answer was not due. */
    void close() {
        System.out.println(looked + " answers, " + wrong + " not as due");
        System.exit(wrong == 0 ? 0 : 1);
    }

    /** Puts a text, and nothing else, on the tape. */
    static void type(LeaningWheel x, String text) {
        Calls.type(x, text);
    }

    static int read(LeaningWheel x, String text) {
        return Calls.read(x, text);
    }

    void fault(String text, int why, int place) {
        LeaningWheel x = new LeaningWheel(37);
        due("text " + text, read(x, text), why == 0 ? 0 : -1);
        due("fault of " + text, x.fault(0), why);
        due("place of the fault of " + text, x.fault(1), place);
        due("tape behind " + text, x.about(6), 0);
    }
}
