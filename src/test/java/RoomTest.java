import java.lang.management.ManagementFactory;
import java.util.Random;

/** All calls of a run live in one room, so a call makes nothing: told by the bytes that this thread takes. */
public final class RoomTest {
    private static final int ROUNDS = 40;

    public static void main(String[] args) {
        com.sun.management.ThreadMXBean threads =
                (com.sun.management.ThreadMXBean) ManagementFactory.getThreadMXBean();
        long own = Thread.currentThread().getId();
        LeaningWheel x = new LeaningWheel(37);
        Checks.read(x, "loss speed / 10 + min(tenth, 3); off 8; stake 1 + lost; on most;");
        use(x, new Random(1));
        long ahead = threads.getThreadAllocatedBytes(own);
        for (int i = 0; i < ROUNDS; i++) {
            use(x, new Random(i));
        }
        long taken = threads.getThreadAllocatedBytes(own) - ahead;
        System.out.println(taken + " bytes in " + ROUNDS + " rounds of 35 calls and more");
        // The test's own random numbers take some; a row of 40 in each call would take 160 bytes * 35 * 40.
        if (taken > ROUNDS * 800) {
            System.out.println("calls make objects");
            System.exit(1);
        }
    }

    private static void use(LeaningWheel x, Random random) {
        int a = random.nextInt(4);
        int p = random.nextInt(37);
        x.back();
        x.pocket(a, p, 3, 5);
        x.stud(a, 3, 4, 3, 2, 1);
        x.tilt(a, p);
        x.late(2, 2, 2, 2, 2);
        x.pays(35);
        x.end(0);
        x.feed(0x6f6e2031, 0x3b202020, 0x20202020, 0x20202020, 0x20202020);
        x.text();
        x.fault(0);
        x.law(0);
        x.drop(a, p, 100, p, 9, 0);
        x.foretold(a, p, 100, p, 9, 0);
        x.start(a, p, 100, p, 9, 3);
        x.odds(a, a, p);
        for (int i = 0; i < 24; i++) {
            x.write(a, i % 3, i % 4, (p * i) % 37);
        }
        x.scratch(a, 0, a);
        x.which(a, -1);
        x.falls(a, p);
        x.nine(a, 3, 1);
        x.above(60, 9, 9);
        x.among(60, 9, 9);
        x.span(60, p, 100, true);
        x.need(100, 1000, 500, 0);
        x.habit(a, 2, 3);
        x.goal(20, 40, 10, 400, 0);
        x.luck(4, 2, 20, 2);
        x.run(0, a, 1, 100, 0);
        x.bet(a, 0, p);
        x.watched(a, 2);
        x.house(20, 5, 2, 7, 0);
        x.seen(p + 1, p);
        x.shoe(0);
        x.about(20);
    }
}
