import java.lang.management.ManagementFactory;
import java.util.Random;

/** All calls of a run live in one room of 7.3 million fields and elements: told by the bytes that this thread takes. */
public final class RoomTest {
    /** Of an object's 512 calls: a round is 75 of them. */
    private static final int ROUNDS = 6;
    private static final long ROOM = 4L * 7300000;

    public static void main(String[] args) {
        Ends.inTime();
        com.sun.management.ThreadMXBean threads =
                (com.sun.management.ThreadMXBean) ManagementFactory.getThreadMXBean();
        long own = Thread.currentThread().getId();
        // What the machine itself takes at first, for the classes, isn't the run's.
        run(37);
        run(5);
        long ahead = threads.getThreadAllocatedBytes(own);
        run(37);
        long taken = threads.getThreadAllocatedBytes(own) - ahead;
        System.out.println(taken + " bytes in a run of 450 calls");
        if (taken > ROOM) {
            System.out.println("more than the room has");
            System.exit(1);
        }
    }

    private static void run(int n) {
        LeaningWheel x = new LeaningWheel(n);
        for (int i = 0; i < ROUNDS; i++) {
            use(x, n, new Random(i));
        }
    }

    /** Each call with what is dear to it. */
    private static void use(LeaningWheel x, int n, Random random) {
        int a = random.nextInt(4);
        int p = random.nextInt(n);
        x.back();
        x.pocket(a, p, 3, 5);
        x.stud(a, 3, 4, 3, 2, 1);
        x.tilt(a, p);
        x.late(2, 2, 2, 2, 2);
        x.pays(35);
        x.end(0);
        x.feed(0x6f666620, 0x2d2d2d31, 0x3b6c6f73, 0x73203120, 0x2b32202a);
        x.feed(0x28746966, 0x74207370, 0x6f696e20, 0x74200a3b, 0x20202020);
        x.text();
        x.end(0);
        x.feed(0x6f66663b, 0x20202020, 0x20202020, 0x20202020, 0x20202020);
        x.text();
        x.feed(0x6f6e2031, 0x3b202020, 0x20202020, 0x20202020, 0x20202020);
        x.text();
        x.fault(0);
        x.law(0);
        for (int i = 0; i < 6; i++) {
            x.start(a, p, 999, p, 9, 3);
        }
        x.drop(a, p, 999, p, 9, 0);
        x.foretold(a, p, 999, p, 9, 0);
        x.odds(a, a, p);
        for (int i = 0; i < 24; i++) {
            x.write(a, i % 3, i % 4, p * i % n);
        }
        x.scratch(a, 0, a);
        x.which(a, -1);
        x.falls(a, p);
        x.nine(a, 3, 1);
        x.above(60, 9, 4);
        x.among(60, 9, 4);
        for (int i = 0; i < 4; i++) {
            x.span(60, 15 * i, 1000000, i % 2 == 0);
            x.need(100 + i, 1000000, 500, 0);
        }
        x.habit(a, 2, 3);
        x.goal(20, 40, 10, 400, 0);
        x.luck(4, 2, 20, 2);
        x.run(0, a, 1, 100, 0);
        x.bet(a, 0, p);
        x.watched(a, 2);
        x.house(20, 5, 2, 7, 0);
        x.seen(p + 1, p);
        x.shoe(0);
        x.image();
        x.about(20);
    }
}
