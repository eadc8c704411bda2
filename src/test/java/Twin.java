import java.util.List;

/** A state, and what a wheel in it shows that no refused call has come to. */
final class Twin {
    private final int n;
    private final States.State state;
    private final List<Integer> now;
    private final List<Integer> then;

    Twin(int n, States.State state) {
        this.n = n;
        this.state = state;
        now = States.look(made());
        LeaningWheel x = made();
        x.back();
        then = States.look(x);
    }

    LeaningWheel made() {
        LeaningWheel x = new LeaningWheel(n);
        state.tell(x);
        return x;
    }

    /** The call is answered so, and neither what later calls show nor THE IMAGE is changed by it. */
    void refused(Checks c, String promise, int refusal, String name, int... args) {
        String call = promise + " of " + n + " pockets: " + Calls.told(name, args);
        LeaningWheel x = made();
        c.due(call + ", refused", Calls.answer(x, name, args), refusal);
        c.due(call + ", refused, changes nothing", States.look(x).equals(now), true);
        LeaningWheel y = made();
        Calls.answer(y, name, args);
        y.back();
        c.due(call + ", refused, leaves THE IMAGE", States.look(y).equals(then), true);
    }
}
