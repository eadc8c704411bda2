import java.util.Arrays;

/**
 * A roulette wheel that leans, and the books that are kept about it: see README.md and ../shared/DOC.md.
 *
 * Every row that a call works on is made with the object and used again, so no call makes an object.
 */
public final class LeaningWheel {
    public static final int NONE = -1;

    private static final int FEWEST_POCKETS = 5;
    private static final int MOST_POCKETS = 37;
    private static final int STUDS = 8;
    private static final int SKIPS = 4;
    private static final int WHEELS = 4;
    private static final int HANDS = 4;
    private static final int EVENINGS = 4;
    private static final int TABLES = 3;
    private static final int BETTORS = 4;
    private static final int LATES = 5;
    private static final int TENTHS = 10;
    private static final int LAST_TENTH = 600;
    private static final int MOST_SPEED = 999;
    private static final int MOST_SPINS = 60;
    private static final int MOST_NINE = 9;
    private static final int MOST_TOLD = 1000000;
    private static final int MILLION = 1000000;
    private static final int SURELY = 1000;
    private static final int WAYS = -2;
    private static final int NOT_FORETOLD = -1000000;
    private static final int NO_SHOE = -1000;

    private final int pockets;
    private final Wheels wheels;
    private final Texts texts;
    private final Book book;
    private final Wheels wheelsThen;
    private final Texts textsThen;
    private final Book bookThen;
    private final Reader reader;
    private final Ball ball;
    private final Player player;
    private final Where where;
    private final Chances chances;
    private final Planner planner;
    private final int[] tally;
    /** The pockets that choose has chosen, a bit for each. */
    private long chosen;

    public LeaningWheel(int n) {
        pockets = Math.max(FEWEST_POCKETS, Math.min(MOST_POCKETS, n));
        wheels = new Wheels(pockets);
        texts = new Texts();
        book = new Book();
        wheelsThen = new Wheels(pockets);
        textsThen = new Texts();
        bookThen = new Book();
        reader = new Reader();
        Machine machine = new Machine();
        ball = new Ball(wheels, texts, machine);
        player = new Player(pockets, texts, machine);
        where = new Where(wheels, book);
        chances = new Chances(pockets);
        planner = new Planner();
        tally = new int[MOST_POCKETS];
    }

    // Telling of the wheels

    public boolean pocket(int wheel, int pocket, int hold, int lean) {
        if (!isWheel(wheel) || !isPocket(pocket) || !within(hold, 1, TENTHS) || !within(lean, 1, 99)) {
            return false;
        }
        wheels.hold[wheel * MOST_POCKETS + pocket] = hold;
        wheels.lean[wheel * MOST_POCKETS + pocket] = lean;
        where.forget();
        return true;
    }

    public boolean stud(int wheel, int stud, int none, int one, int two, int three) {
        if (!isWheel(wheel) || !within(stud, 0, STUDS - 1) || !areTenths(none, one, two, three, 0)) {
            return false;
        }
        int first = (wheel * STUDS + stud) * SKIPS;
        wheels.skips[first] = none;
        wheels.skips[first + 1] = one;
        wheels.skips[first + 2] = two;
        wheels.skips[first + 3] = three;
        return true;
    }

    public boolean tilt(int wheel, int v) {
        if (!isWheel(wheel) || !within(v, 0, 99)) {
            return false;
        }
        wheels.tilts[wheel] = v;
        return true;
    }

    public boolean late(int none, int one, int two, int three, int four) {
        if (!areTenths(none, one, two, three, four)) {
            return false;
        }
        book.late[0] = none;
        book.late[1] = one;
        book.late[2] = two;
        book.late[3] = three;
        book.late[4] = four;
        return true;
    }

    public boolean pays(int v) {
        if (!within(v, 1, 99)) {
            return false;
        }
        book.pay = v;
        return true;
    }

    // Texts

    public int feed(int a, int b, int c, int d, int e) {
        if (!reader.hasRoom()) {
            return NONE;
        }
        reader.append(a);
        reader.append(b);
        reader.append(c);
        reader.append(d);
        reader.append(e);
        return reader.length;
    }

    public int end(int n) {
        if (!within(n, 0, reader.length)) {
            return NONE;
        }
        reader.length = n;
        return n;
    }

    public int text() {
        // With all texts taken nothing is read: the tape and the latest fault stay.
        if (texts.count >= Texts.MOST) {
            return NONE;
        }
        boolean sound = reader.read(texts);
        reader.length = 0;
        if (!sound) {
            return NONE;
        }
        texts.count++;
        return texts.count - 1;
    }

    public int fault(int what) {
        if (what == 0) {
            return reader.fault;
        }
        return what == 1 ? reader.place : NONE;
    }

    public boolean law(int text) {
        if (!within(text, NONE, texts.count - 1)) {
            return false;
        }
        texts.law = text;
        return true;
    }

    // Drops

    public int drop(int wheel, int point, int speed, int dish, int turn, int what) {
        boolean ofPocket = within(what, 100, 99 + pockets);
        if (!isWheel(wheel) || !isRelease(point, speed, dish, turn) || !(within(what, 0, 2) || ofPocket)) {
            return NONE;
        }
        ball.roll(wheel, point, speed, dish, turn);
        if (ofPocket) {
            return ball.odds[what - 100];
        }
        if (what == 0) {
            return ball.offAt;
        }
        return what == 1 ? ball.struck : ball.reached;
    }

    public int foretold(int wheel, int point, int speed, int dish, int turn, int what) {
        if (!isWheel(wheel) || !isRelease(point, speed, dish, turn)) {
            return NOT_FORETOLD;
        }
        if (within(what, 200, 200 + LAST_TENTH)) {
            ball.roll(wheel, point, speed, dish, turn);
            return ball.offAt >= what - 200 ? 1 : 0;
        }
        boolean ofPocket = within(what, 100, 99 + pockets);
        if (!within(what, 0, 2) && !ofPocket) {
            return NOT_FORETOLD;
        }
        foresee(wheel, point, speed, dish, turn);
        if (ofPocket) {
            return tally[what - 100];
        }
        int best = greatest(tally);
        if (what == 0) {
            return best;
        }
        return what == 1 ? tally[best] : tally[best] * (book.pay + 1) - 10000;
    }

    public int start(int hand, int point, int speed, int dish, int turn, int weight) {
        if (!isHand(hand) || !isRelease(point, speed, dish, turn) || !within(weight, 1, 9)) {
            return NONE;
        }
        int count = book.startCounts[hand];
        if (count >= Book.MOST_STARTS) {
            return NONE;
        }
        int first = book.startAt(hand, count);
        book.starts[first] = point;
        book.starts[first + 1] = speed;
        book.starts[first + 2] = dish;
        book.starts[first + 3] = turn;
        book.starts[first + 4] = weight;
        book.startCounts[hand] = count + 1;
        return count + 1;
    }

    public int odds(int wheel, int hand, int pocket) {
        if (!isWheel(wheel) || !isHand(hand) || !isPocketOrNone(pocket)) {
            return NONE;
        }
        int together = 0;
        for (int i = 0; i < book.startCounts[hand]; i++) {
            int first = book.startAt(hand, i);
            int weight = book.starts[first + 4];
            if (pocket == NONE) {
                together += weight * 1000;
            } else {
                ball.roll(wheel, book.starts[first], book.starts[first + 1], book.starts[first + 2],
                        book.starts[first + 3]);
                together += weight * ball.odds[pocket];
            }
        }
        return together;
    }

    // What clerks wrote

    public int write(int evening, int table, int hand, int pocket) {
        if (!isTable(evening, table) || !isHand(hand) || !isPocketOrNone(pocket)) {
            return NONE;
        }
        if (book.spinCount >= Book.MOST_WRITTEN || book.writtenIn(evening) >= Book.MOST_OF_EVENING) {
            return NONE;
        }
        int i = book.spinCount;
        book.evening[i] = evening;
        book.table[i] = table;
        book.hand[i] = hand;
        book.fell[i] = pocket;
        book.spinCount = i + 1;
        where.forget();
        return i + 1;
    }

    public boolean scratch(int evening, int table, int wheel) {
        if (!isTable(evening, table) || !within(wheel, NONE, WHEELS - 1)) {
            return false;
        }
        book.scratches[evening * TABLES + table] = wheel;
        where.forget();
        return true;
    }

    public int which(int evening, int table) {
        if (!within(evening, 0, EVENINGS - 1) || !within(table, WAYS, TABLES - 1)) {
            return NONE;
        }
        where.settle(evening);
        if (table == WAYS) {
            return where.ways[evening];
        }
        return table == NONE ? where.sure[evening] : where.standing[evening * TABLES + table];
    }

    public int falls(int wheel, int pocket) {
        if (!isWheel(wheel) || !isPocketOrNone(pocket)) {
            return NONE;
        }
        int all = where.countFalls(wheel, tally);
        return pocket == NONE ? all : tally[pocket];
    }

    public int nine(int wheel, int j, int what) {
        boolean known = within(what, 0, 1) || what >= 10 && what - 10 < j;
        if (!isWheel(wheel) || !isNine(j) || !known) {
            return NONE;
        }
        int all = where.countFalls(wheel, tally);
        int together = choose(j);
        if (what == 0) {
            return together;
        }
        if (what >= 10) {
            return chosenAt(what - 10);
        }
        return within(all, 1, MOST_SPINS) ? chances.even(all, together, j, chances.sets(j)) : NONE;
    }

    // Odds

    public int above(int n, int k, int j) {
        if (!isCount(n, k) || !within(j, 1, pockets - 1)) {
            return NONE;
        }
        return chances.even(n, k, j, 1);
    }

    public int among(int n, int k, int j) {
        if (!isCount(n, k) || !isNine(j)) {
            return NONE;
        }
        return chances.even(n, k, j, chances.sets(j));
    }

    public int span(int n, int x, int told, boolean high) {
        if (!isCount(n, x) || !within(told, 2, MOST_TOLD)) {
            return NONE;
        }
        // x or fewer of n fall there just when n - x or more fall elsewhere.
        return high ? SURELY - chances.least(n, n - x, told) : chances.least(n, x, told);
    }

    public int need(int q, int told, int sure, int what) {
        if (!within(q, 1, 999) || !within(told, 2, MOST_TOLD) || !within(sure, 1, 999) || !within(what, 0, 1)) {
            return NONE;
        }
        chances.seek(q, told, sure);
        return what == 0 ? chances.needed : chances.neededOf;
    }

    public int habit(int hand, int width, int what) {
        if (!isHand(hand) || !within(width, 1, 4) || !within(what, 0, 3)) {
            return NONE;
        }
        int distances = countDistances(hand);
        if (distances == 0) {
            return NONE;
        }
        if (what == 2) {
            return distances;
        }
        int first = widest(width);
        if (what == 0) {
            return first;
        }
        int many = inWidth(first, width);
        if (what == 1) {
            return many;
        }
        return distances > MOST_SPINS ? NONE : chances.even(distances, many, width, pockets);
    }

    public int goal(int purse, int goal, int n, int q, int what) {
        boolean fits = within(purse, 0, Planner.MOST_PURSE) && within(goal, 1, Planner.MOST_PURSE)
                && within(n, 0, 10) && within(q, 0, SURELY) && within(what, 0, 1);
        if (!fits) {
            return NONE;
        }
        planner.reach(purse, goal, n, q, book.pay);
        return what == 0 ? planner.millionths : planner.firstStake;
    }

    public int luck(int days, int g, int n, int w) {
        if (!within(days, 1, 4) || !within(g, 0, days) || !within(n, 1, 20) || !within(w, 0, n)) {
            return NONE;
        }
        return chances.luckyDays(days, g, n, w);
    }

    // Bettors

    public int run(int text, int evening, int table, int purse, int what) {
        boolean fits = within(text, 0, texts.count - 1) && isTable(evening, table) && within(purse, 1, 9999)
                && within(what, 0, 2);
        if (!fits) {
            return NONE;
        }
        player.play(book, text, evening, table, purse);
        if (what == 0) {
            return player.purse;
        }
        return what == 1 ? player.least : player.won;
    }

    public int bet(int bettor, int spin, int pocket) {
        if (!within(bettor, 0, BETTORS - 1) || !within(spin, 0, book.spinCount - 1) || !isPocket(pocket)) {
            return NONE;
        }
        if (book.fell[spin] == NONE || book.betCount >= Book.MOST_BETS || book.hasBet(bettor, spin)) {
            return NONE;
        }
        int i = book.betCount;
        book.bettor[i] = bettor;
        book.betSpin[i] = spin;
        book.betPocket[i] = pocket;
        book.betCount = i + 1;
        return i + 1;
    }

    public int watched(int bettor, int what) {
        if (!within(bettor, 0, BETTORS - 1) || !within(what, 0, 2)) {
            return NONE;
        }
        int many = book.betsOf(bettor);
        if (what == 0) {
            return many;
        }
        int won = book.betsWon(bettor);
        if (what == 1) {
            return won;
        }
        return within(many, 1, MOST_SPINS) ? chances.even(many, won, 1, 1) : NONE;
    }

    // A house and a shoe

    public int house(int days, int move, int k, int loss, int what) {
        boolean fits = within(days, 1, Planner.MOST_DAYS) && within(move, 0, 9999) && within(k, 0, 20)
                && within(loss, 0, 9999) && within(what, 0, 1);
        if (!fits) {
            return NONE;
        }
        planner.keep(days, move, k, loss);
        return what == 0 ? planner.cost : planner.moves;
    }

    public int seen(int speed, int tenth) {
        if (!within(speed, 1, MOST_SPEED) || !within(tenth, 0, LAST_TENTH) || book.sightCount >= Book.MOST_SEEN) {
            return NONE;
        }
        int i = book.sightCount;
        book.sightSpeed[i] = speed;
        book.sightTenth[i] = tenth;
        book.sightCount = i + 1;
        planner.learnt = false;
        return i + 1;
    }

    public int shoe(int what) {
        if (!within(what, 0, 3) || book.sightCount == 0) {
            return NO_SHOE;
        }
        planner.learn(book);
        switch (what) {
            case 0:
                return planner.least;
            case 1:
                return planner.a;
            case 2:
                return planner.b;
            default:
                return planner.c;
        }
    }

    // An image

    public int image() {
        wheelsThen.take(wheels);
        textsThen.take(texts);
        bookThen.take(book);
        return book.spinCount;
    }

    public int back() {
        wheels.take(wheelsThen);
        texts.take(textsThen);
        book.take(bookThen);
        where.forget();
        planner.learnt = false;
        return book.spinCount;
    }

    public int about(int what) {
        if (within(what, 10, 9 + HANDS)) {
            return book.startCounts[what - 10];
        }
        if (within(what, 20, 19 + WHEELS)) {
            return wheels.leans(what - 20);
        }
        switch (what) {
            case 0:
                return pockets;
            case 1:
                return texts.count;
            case 2:
                return texts.law;
            case 3:
                return book.spinCount;
            case 4:
                return book.betCount;
            case 5:
                return book.sightCount;
            case 6:
                return reader.length;
            case 7:
                return book.pay;
            default:
                return NONE;
        }
    }

    // What a call may name

    private static boolean within(int v, int low, int high) {
        return v >= low && v <= high;
    }

    private static boolean isWheel(int wheel) {
        return within(wheel, 0, WHEELS - 1);
    }

    private static boolean isHand(int hand) {
        return within(hand, 0, HANDS - 1);
    }

    private static boolean isTable(int evening, int table) {
        return within(evening, 0, EVENINGS - 1) && within(table, 0, TABLES - 1);
    }

    private static boolean isCount(int n, int k) {
        return within(n, 1, MOST_SPINS) && within(k, 0, n);
    }

    /** Each is looked at before they are added, so that no sum can wrap round to ten. */
    private static boolean areTenths(int a, int b, int c, int d, int e) {
        boolean each = within(a, 0, TENTHS) && within(b, 0, TENTHS) && within(c, 0, TENTHS)
                && within(d, 0, TENTHS) && within(e, 0, TENTHS);
        return each && a + b + c + d + e == TENTHS;
    }

    private boolean isPocket(int pocket) {
        return within(pocket, 0, pockets - 1);
    }

    private boolean isPocketOrNone(int pocket) {
        return within(pocket, NONE, pockets - 1);
    }

    private boolean isNine(int j) {
        return within(j, 1, Math.min(MOST_NINE, pockets - 1));
    }

    private boolean isRelease(int point, int speed, int dish, int turn) {
        int last = STUDS * pockets - 1;
        return within(point, 0, last) && within(speed, 1, MOST_SPEED) && within(dish, 0, last)
                && within(turn, 0, 99);
    }

    // Counting by pockets

    private void foresee(int wheel, int point, int speed, int dish, int turn) {
        int ring = STUDS * pockets;
        Arrays.fill(tally, 0);
        for (int tenths = 0; tenths < LATES; tenths++) {
            int often = book.late[tenths];
            if (often > 0) {
                ball.roll(wheel, (point + speed * tenths) % ring, speed,
                        Math.floorMod(dish - turn * tenths, ring), turn);
                for (int i = 0; i < pockets; i++) {
                    tally[i] += often * ball.odds[i];
                }
            }
        }
    }

    private int greatest(int[] row) {
        int best = 0;
        for (int i = 1; i < pockets && i < row.length; i++) {
            if (row[i] > row[best]) {
                best = i;
            }
        }
        return best;
    }

    /** Chooses the j pockets that the tally has most of, of like ones the lowest: how many they have. */
    private int choose(int j) {
        int together = 0;
        chosen = 0;
        for (int i = 0; i < j; i++) {
            int best = NONE;
            for (int p = 0; p < pockets; p++) {
                if (!isChosen(p) && (best == NONE || tally[p] > tally[best])) {
                    best = p;
                }
            }
            if (best != NONE) {
                chosen |= 1L << best;
                together += tally[best];
            }
        }
        return together;
    }

    private boolean isChosen(int pocket) {
        return (chosen >> pocket & 1) == 1;
    }

    private int chosenAt(int place) {
        int ahead = 0;
        for (int p = 0; p < pockets; p++) {
            if (isChosen(p)) {
                if (ahead == place) {
                    return p;
                }
                ahead++;
            }
        }
        return NONE;
    }

    /** Puts a hand's distances into the tally: how many there are. */
    private int countDistances(int hand) {
        int many = 0;
        int last = NONE;
        Arrays.fill(tally, 0);
        for (int i = 0; i < book.spinCount; i++) {
            int fell = book.fell[i];
            if (book.hand[i] == hand && fell != NONE) {
                if (last != NONE) {
                    tally[Math.floorMod(fell - last, pockets)]++;
                    many++;
                }
                last = fell;
            }
        }
        return many;
    }

    private int widest(int width) {
        int best = 0;
        for (int first = 1; first < pockets; first++) {
            if (inWidth(first, width) > inWidth(best, width)) {
                best = first;
            }
        }
        return best;
    }

    private int inWidth(int first, int width) {
        int many = 0;
        for (int i = 0; i < width; i++) {
            many += tally[(first + i) % pockets];
        }
        return many;
    }

    /** The wheels as they are told. Rows have room for the most pockets that there can be. */
    private static final class Wheels {
        final int pockets;
        final int[] hold = new int[WHEELS * MOST_POCKETS];
        final int[] lean = new int[WHEELS * MOST_POCKETS];
        final int[] skips = new int[WHEELS * STUDS * SKIPS];
        final int[] tilts = new int[WHEELS];

        Wheels(int pockets) {
            this.pockets = pockets;
            Arrays.fill(hold, 10);
            Arrays.fill(lean, 10);
            for (int i = 0; i < skips.length; i += SKIPS) {
                skips[i] = TENTHS;
            }
        }

        void take(Wheels other) {
            System.arraycopy(other.hold, 0, hold, 0, hold.length);
            System.arraycopy(other.lean, 0, lean, 0, lean.length);
            System.arraycopy(other.skips, 0, skips, 0, skips.length);
            System.arraycopy(other.tilts, 0, tilts, 0, tilts.length);
        }

        int leans(int wheel) {
            int sum = 0;
            for (int i = 0; i < pockets; i++) {
                sum += lean[wheel * MOST_POCKETS + i];
            }
            return sum;
        }
    }

    /** The texts as codes that a Machine works through: operands first, what is done to them behind. */
    private static final class Texts {
        static final int MOST = 6;
        static final int MOST_BYTES = 300;
        static final int CLAUSES = 4;
        static final int LOSS = 0;
        static final int OFF = 1;
        static final int STAKE = 2;
        static final int ON = 3;
        /** Codes below NAME are numbers, those below ADD names. */
        static final int NAME = 10000;
        static final int ADD = 20000;
        static final int TAKE = 20001;
        static final int TIMES = 20002;
        static final int OVER = 20003;
        static final int LOWER = 20004;
        static final int HIGHER = 20005;
        static final int NEGATE = 20006;

        final int[] codes = new int[MOST * MOST_BYTES];
        final int[] from = new int[MOST * CLAUSES];
        final int[] until = new int[MOST * CLAUSES];
        int count;
        int law = NONE;

        Texts() {
            Arrays.fill(from, NONE);
        }

        void take(Texts other) {
            System.arraycopy(other.codes, 0, codes, 0, codes.length);
            System.arraycopy(other.from, 0, from, 0, from.length);
            System.arraycopy(other.until, 0, until, 0, until.length);
            count = other.count;
            law = other.law;
        }

        boolean has(int text, int clause) {
            return within(text, 0, count - 1) && from[text * CLAUSES + clause] != NONE;
        }
    }

    /** What is told beside the wheels and texts. */
    private static final class Book {
        static final int MOST_WRITTEN = 200;
        static final int MOST_OF_EVENING = 24;
        static final int MOST_STARTS = 6;
        static final int START = 5;
        static final int MOST_BETS = 60;
        static final int MOST_SEEN = 20;

        final int[] evening = new int[MOST_WRITTEN];
        final int[] table = new int[MOST_WRITTEN];
        final int[] hand = new int[MOST_WRITTEN];
        final int[] fell = new int[MOST_WRITTEN];
        int spinCount;
        final int[] scratches = new int[EVENINGS * TABLES];
        final int[] starts = new int[HANDS * MOST_STARTS * START];
        final int[] startCounts = new int[HANDS];
        final int[] bettor = new int[MOST_BETS];
        final int[] betSpin = new int[MOST_BETS];
        final int[] betPocket = new int[MOST_BETS];
        int betCount;
        final int[] sightSpeed = new int[MOST_SEEN];
        final int[] sightTenth = new int[MOST_SEEN];
        int sightCount;
        final int[] late = new int[LATES];
        int pay = 35;

        Book() {
            Arrays.fill(scratches, NONE);
            late[0] = TENTHS;
        }

        void take(Book other) {
            System.arraycopy(other.evening, 0, evening, 0, evening.length);
            System.arraycopy(other.table, 0, table, 0, table.length);
            System.arraycopy(other.hand, 0, hand, 0, hand.length);
            System.arraycopy(other.fell, 0, fell, 0, fell.length);
            spinCount = other.spinCount;
            System.arraycopy(other.scratches, 0, scratches, 0, scratches.length);
            System.arraycopy(other.starts, 0, starts, 0, starts.length);
            System.arraycopy(other.startCounts, 0, startCounts, 0, startCounts.length);
            System.arraycopy(other.bettor, 0, bettor, 0, bettor.length);
            System.arraycopy(other.betSpin, 0, betSpin, 0, betSpin.length);
            System.arraycopy(other.betPocket, 0, betPocket, 0, betPocket.length);
            betCount = other.betCount;
            System.arraycopy(other.sightSpeed, 0, sightSpeed, 0, sightSpeed.length);
            System.arraycopy(other.sightTenth, 0, sightTenth, 0, sightTenth.length);
            sightCount = other.sightCount;
            System.arraycopy(other.late, 0, late, 0, late.length);
            pay = other.pay;
        }

        int startAt(int ofHand, int i) {
            return (ofHand * MOST_STARTS + i) * START;
        }

        int writtenIn(int ofEvening) {
            int many = 0;
            for (int i = 0; i < spinCount; i++) {
                if (evening[i] == ofEvening) {
                    many++;
                }
            }
            return many;
        }

        boolean fellAt(int i, int ofEvening, int ofTable) {
            return evening[i] == ofEvening && table[i] == ofTable && fell[i] != NONE;
        }

        boolean hasBet(int by, int spin) {
            for (int i = 0; i < betCount; i++) {
                if (bettor[i] == by && betSpin[i] == spin) {
                    return true;
                }
            }
            return false;
        }

        int betsOf(int by) {
            int many = 0;
            for (int i = 0; i < betCount; i++) {
                if (bettor[i] == by) {
                    many++;
                }
            }
            return many;
        }

        int betsWon(int by) {
            int many = 0;
            for (int i = 0; i < betCount; i++) {
                if (bettor[i] == by && fell[betSpin[i]] == betPocket[i]) {
                    many++;
                }
            }
            return many;
        }
    }

    /** The tape, and the reading of it into a text's codes. */
    private static final class Reader {
        static final int FED = 20;
        static final int MOST_OPEN = 8;
        static final int MOST_NUMBER = 9999;
        /** Kinds of tokens beside the signs, which are their own kinds. */
        static final int END = -1;
        static final int WORD = -2;
        static final int NUMBER = -3;
        static final int NOTHING = -4;
        static final int WORDS = 17;
        static final int FIRST_NAME = 4;
        static final int FIRST_WAY_NAME = 9;
        static final int MIN = 15;
        static final int MAX = 16;

        final int[] tape = new int[Texts.MOST_BYTES];
        int length;
        int fault = NONE;
        int place = NONE;
        private Texts into;
        private int text;
        private int clause;
        private int filled;
        private int at;
        private int kind;
        private int first;
        private int value;

        boolean hasRoom() {
            return length + FED <= tape.length;
        }

        void append(int fourBytes) {
            for (int shift = 24; shift >= 0 && length < tape.length; shift -= 8) {
                tape[length] = fourBytes >>> shift & 255;
                length++;
            }
        }

        /** Reads the tape as the text behind those that there are: whether it has no fault. */
        boolean read(Texts texts) {
            into = texts;
            text = texts.count;
            filled = text * Texts.MOST_BYTES;
            fault = 0;
            place = NONE;
            at = 0;
            for (int i = 0; i < Texts.CLAUSES; i++) {
                into.from[text * Texts.CLAUSES + i] = NONE;
            }
            advance();
            for (int i = 0; i <= tape.length && fault == 0 && kind != END; i++) {
                readClause();
            }
            return fault == 0;
        }

        private void readClause() {
            if (kind != WORD || !within(value, 0, Texts.CLAUSES - 1)) {
                refuse(1);
                return;
            }
            int slot = text * Texts.CLAUSES + value;
            if (into.from[slot] != NONE) {
                refuse(4);
                return;
            }
            clause = value;
            into.from[slot] = filled;
            advance();
            readSum(0);
            into.until[slot] = filled;
            expect(';');
        }

        private void readSum(int open) {
            readProduct(open);
            for (int i = 0; i < tape.length && fault == 0 && (kind == '+' || kind == '-'); i++) {
                int code = kind == '+' ? Texts.ADD : Texts.TAKE;
                advance();
                readProduct(open);
                put(code);
            }
        }

        private void readProduct(int open) {
            readOne(open);
            for (int i = 0; i < tape.length && fault == 0 && (kind == '*' || kind == '/'); i++) {
                int code = kind == '*' ? Texts.TIMES : Texts.OVER;
                advance();
                readOne(open);
                put(code);
            }
        }

        private void readOne(int open) {
            if (fault != 0) {
                return;
            }
            if (kind == NUMBER) {
                readNumber();
            } else if (kind == WORD) {
                readWord(open);
            } else if (kind == '(') {
                if (mayOpen(open)) {
                    advance();
                    readSum(open + 1);
                    expect(')');
                }
            } else if (kind == '-') {
                if (mayOpen(open)) {
                    advance();
                    readOne(open + 1);
                    put(Texts.NEGATE);
                }
            } else {
                refuse(1);
            }
        }

        private void readNumber() {
            if (value > MOST_NUMBER) {
                refuse(2);
                return;
            }
            put(value);
            advance();
        }

        private void readWord(int open) {
            if (value == MIN || value == MAX) {
                readPair(open, value == MIN ? Texts.LOWER : Texts.HIGHER);
            } else if (value < FIRST_NAME) {
                refuse(1);
            } else if (value < FIRST_WAY_NAME != clause < Texts.STAKE) {
                refuse(5);
            } else {
                put(Texts.NAME + value - FIRST_NAME);
                advance();
            }
        }

        private void readPair(int open, int code) {
            advance();
            if (kind != '(') {
                refuse(1);
            } else if (mayOpen(open)) {
                advance();
                readSum(open + 1);
                expect(',');
                readSum(open + 1);
                expect(')');
                put(code);
            }
        }

        private boolean mayOpen(int open) {
            if (open >= MOST_OPEN) {
                refuse(3);
                return false;
            }
            return true;
        }

        private void expect(int sign) {
            if (kind != sign) {
                refuse(1);
            } else if (fault == 0) {
                advance();
            }
        }

        private void refuse(int why) {
            if (fault == 0) {
                fault = why;
                place = first;
            }
        }

        private void put(int code) {
            if (within(filled, 0, into.codes.length - 1)) {
                into.codes[filled] = code;
                filled++;
            }
        }

        /** Comes to the next token. */
        private void advance() {
            while (at < length && (tape[at] == ' ' || tape[at] == '\n')) {
                at++;
            }
            first = at;
            if (at >= length) {
                kind = END;
            } else if (isLetter(tape[at])) {
                while (at < length && isLetter(tape[at])) {
                    at++;
                }
                kind = WORD;
                value = wordAt();
            } else if (isDigit(tape[at])) {
                value = 0;
                while (at < length && isDigit(tape[at])) {
                    value = Math.min(MOST_NUMBER + 1, value * 10 + tape[at] - '0');
                    at++;
                }
                kind = NUMBER;
            } else {
                kind = isSign(tape[at]) ? tape[at] : NOTHING;
                at++;
            }
        }

        private static boolean isLetter(int b) {
            return within(b, 'a', 'z') || within(b, 'A', 'Z');
        }

        private static boolean isDigit(int b) {
            return within(b, '0', '9');
        }

        private static boolean isSign(int b) {
            return b != '.' && within(b, '(', '/') || b == ';';
        }

        /** Which word stands from first to at; NONE of those that there are. */
        private int wordAt() {
            for (int i = 0; i < WORDS; i++) {
                String word = word(i);
                int like = 0;
                while (like < word.length() && first + like < at && tape[first + like] == word.charAt(like)) {
                    like++;
                }
                if (like == word.length() && first + like == at) {
                    return i;
                }
            }
            return NONE;
        }

        private static String word(int i) {
            switch (i) {
                case 0: return "loss";
                case 1: return "off";
                case 2: return "stake";
                case 3: return "on";
                case 4: return "speed";
                case 5: return "point";
                case 6: return "tenth";
                case 7: return "tilt";
                case 8: return "side";
                case 9: return "purse";
                case 10: return "spin";
                case 11: return "last";
                case 12: return "lost";
                case 13: return "most";
                case 14: return "won";
                case MIN: return "min";
                default: return "max";
            }
        }
    }

    /** Works out a clause of a text from what its names are. */
    private static final class Machine {
        static final int LIMIT = 1000000;
        static final int SPEED = 0;
        static final int POINT = 1;
        static final int TENTH = 2;
        static final int TILT = 3;
        static final int SIDE = 4;
        static final int PURSE = 5;
        static final int SPIN = 6;
        static final int LAST = 7;
        static final int LOST = 8;
        static final int MOST = 9;
        static final int WON = 10;

        final int[] names = new int[11];
        private final int[] stack = new int[64];
        private int height;

        /** The clause's value; without, where the text (or NONE) has none. */
        int work(Texts texts, int text, int clause, int without) {
            if (!texts.has(text, clause)) {
                return without;
            }
            int until = Math.min(texts.until[text * Texts.CLAUSES + clause], texts.codes.length);
            height = 0;
            for (int i = texts.from[text * Texts.CLAUSES + clause]; i < until; i++) {
                step(texts.codes[i]);
            }
            return height > 0 ? stack[0] : without;
        }

        private void step(int code) {
            if (code < Texts.NAME) {
                push(code);
            } else if (code < Texts.ADD) {
                int name = code - Texts.NAME;
                push(name < names.length ? names[name] : 0);
            } else if (code == Texts.NEGATE) {
                if (within(height, 1, stack.length)) {
                    stack[height - 1] = -stack[height - 1];
                }
            } else if (within(height, 2, stack.length)) {
                height--;
                stack[height - 1] = join(code, stack[height - 1], stack[height]);
            }
        }

        private void push(int v) {
            if (within(height, 0, stack.length - 1)) {
                stack[height] = v;
                height++;
            }
        }

        private static int join(int code, int left, int right) {
            switch (code) {
                case Texts.ADD:
                    return limited((long) left + right);
                case Texts.TAKE:
                    return limited((long) left - right);
                case Texts.TIMES:
                    return limited((long) left * right);
                case Texts.OVER:
                    return right == 0 ? 0 : left / right;
                case Texts.LOWER:
                    return Math.min(left, right);
                default:
                    return Math.max(left, right);
            }
        }

        private static int limited(long v) {
            return (int) Math.max(-LIMIT, Math.min(LIMIT, v));
        }
    }

    /** A drop by the law: when it is off, the stud it strikes, the pocket it comes to, each pocket's odds. */
    private static final class Ball {
        private final Wheels wheels;
        private final Texts texts;
        private final Machine machine;
        private final int pockets;
        final int[] odds = new int[MOST_POCKETS];
        int offAt;
        int struck;
        int reached;

        Ball(Wheels wheels, Texts texts, Machine machine) {
            this.wheels = wheels;
            this.texts = texts;
            this.machine = machine;
            this.pockets = Math.max(1, wheels.pockets);
        }

        void roll(int wheel, int point, int speed, int dish, int turn) {
            int ring = STUDS * pockets;
            int here = point;
            int left = speed;
            int t = 0;
            machine.names[Machine.TILT] = wheels.tilts[wheel];
            while (t < LAST_TENTH) {
                see(left, here, t);
                if (left < 1 || left <= machine.work(texts, texts.law, Texts.OFF, 8)) {
                    break;
                }
                int loss = machine.work(texts, texts.law, Texts.LOSS, 1);
                here = (here + left) % ring;
                left -= Math.max(1, Math.min(MOST_SPEED, loss));
                t++;
            }
            offAt = t;
            struck = (here / pockets + 1) % STUDS;
            int under = Math.floorMod(dish - turn * t, ring);
            reached = Math.floorMod(struck * pockets - under, ring) / 8;
            skip(wheel);
        }

        private void see(int speed, int point, int tenth) {
            machine.names[Machine.SPEED] = speed;
            machine.names[Machine.POINT] = point;
            machine.names[Machine.TENTH] = tenth;
            machine.names[Machine.SIDE] = point / pockets;
        }

        private void skip(int wheel) {
            Arrays.fill(odds, 0);
            for (int on = 0; on < SKIPS; on++) {
                int often = wheels.skips[(wheel * STUDS + struck) * SKIPS + on];
                int one = (reached + on) % pockets;
                int two = (one + 1) % pockets;
                int held = wheels.hold[wheel * MOST_POCKETS + one];
                int heldThen = wheels.hold[wheel * MOST_POCKETS + two];
                int passed = often * (TENTHS - held);
                odds[one] += often * held * TENTHS;
                odds[two] += passed * heldThen;
                odds[(two + 1) % pockets] += passed * (TENTHS - heldThen);
            }
        }
    }

    /** A bettor whose way is a text, from spin to spin at a table. */
    private static final class Player {
        static final int RICHEST = 999999;
        private final int pockets;
        private final Texts texts;
        private final Machine machine;
        private final int[] came = new int[MOST_POCKETS];
        private int text;
        private int pay;
        private int ahead;
        private int last;
        private int lost;
        int purse;
        int least;
        int won;

        Player(int pockets, Texts texts, Machine machine) {
            this.pockets = Math.max(1, pockets);
            this.texts = texts;
            this.machine = machine;
        }

        void play(Book book, int way, int evening, int table, int from) {
            text = way;
            pay = book.pay;
            purse = from;
            least = from;
            won = 0;
            lost = 0;
            ahead = 0;
            last = NONE;
            Arrays.fill(came, 0);
            for (int i = 0; i < book.spinCount; i++) {
                if (book.fellAt(i, evening, table)) {
                    stakeOn(book.fell[i]);
                }
            }
        }

        private void stakeOn(int fell) {
            int most = oftenest();
            machine.names[Machine.PURSE] = purse;
            machine.names[Machine.SPIN] = ahead;
            machine.names[Machine.LAST] = last;
            machine.names[Machine.LOST] = lost;
            machine.names[Machine.MOST] = most;
            machine.names[Machine.WON] = won;
            int stake = Math.max(0, Math.min(purse, machine.work(texts, text, Texts.STAKE, 1)));
            int on = machine.work(texts, text, Texts.ON, most);
            if (stake > 0 && on >= 0) {
                settleUp(stake, on % pockets == fell);
            }
            least = Math.min(least, purse);
            came[fell]++;
            last = fell;
            ahead++;
        }

        private void settleUp(int stake, boolean fallsThere) {
            if (fallsThere) {
                purse = Math.min(RICHEST, purse + pay * stake);
                won++;
                lost = 0;
            } else {
                purse -= stake;
                lost++;
            }
        }

        private int oftenest() {
            if (ahead == 0) {
                return NONE;
            }
            int best = 0;
            for (int i = 1; i < pockets; i++) {
                if (came[i] > came[best]) {
                    best = i;
                }
            }
            return best;
        }
    }

    /** A whole number from 0 on, in limbs of 31 bits, the lowest first. */
    private static final class Big {
        /** The dearest, chances of ways of 24 spins times 1000, have 1035 bits or so. */
        static final int LIMBS = 40;
        static final int BITS = 31;
        static final long MASK = (1L << BITS) - 1;
        /** This, its half, the half's half and so on are together more than a million. */
        static final int HALF_OF_MOST_PARTS = 1 << 19;

        private final int[] limbs = new int[LIMBS];
        private int size;

        void set(int v) {
            size = v > 0 ? 1 : 0;
            limbs[0] = Math.max(0, v);
        }

        void set(Big other) {
            size = Math.min(other.size, LIMBS);
            System.arraycopy(other.limbs, 0, limbs, 0, size);
        }

        void times(int factor) {
            long carry = 0;
            for (int i = 0; i < size; i++) {
                long v = (long) limbs[i] * factor + carry;
                limbs[i] = (int) (v & MASK);
                carry = v >>> BITS;
            }
            push((int) carry);
            trim();
        }

        void times(Big factor, Big room) {
            room.set(this);
            int grown = Math.min(LIMBS, room.size + factor.size);
            size = 0;
            grow(grown);
            for (int i = 0; i < room.size; i++) {
                long carry = 0;
                for (int j = 0; i + j < grown; j++) {
                    long by = j < factor.size ? factor.limbs[j] : 0;
                    long v = room.limbs[i] * by + limbs[i + j] + carry;
                    limbs[i + j] = (int) (v & MASK);
                    carry = v >>> BITS;
                }
            }
            size = grown;
            trim();
        }

        void over(int divisor) {
            if (divisor <= 0) {
                return;
            }
            long rest = 0;
            for (int i = size - 1; i >= 0; i--) {
                long v = (rest << BITS) + limbs[i];
                limbs[i] = (int) (v / divisor);
                rest = v % divisor;
            }
            trim();
        }

        void plus(Big other) {
            grow(other.size);
            long carry = 0;
            for (int i = 0; i < size; i++) {
                long v = (i < other.size ? other.limbs[i] : 0) + carry + limbs[i];
                limbs[i] = (int) (v & MASK);
                carry = v >>> BITS;
            }
            push((int) carry);
        }

        /** Other is never the greater one. */
        void minus(Big other) {
            long borrowed = 0;
            for (int i = 0; i < size; i++) {
                long v = limbs[i] - borrowed - (i < other.size ? other.limbs[i] : 0);
                borrowed = v < 0 ? 1 : 0;
                limbs[i] = (int) (v & MASK);
            }
            trim();
        }

        boolean reaches(Big other) {
            if (size != other.size) {
                return size > other.size;
            }
            for (int i = size - 1; i >= 0; i--) {
                if (limbs[i] != other.limbs[i]) {
                    return limbs[i] > other.limbs[i];
                }
            }
            return true;
        }

        /** How many of so many parts of the whole this is, cut, parts at most; this is parts times as much then. */
        int share(Big whole, int parts, Big room) {
            times(parts);
            int many = 0;
            for (int step = HALF_OF_MOST_PARTS; step > 0; step /= 2) {
                if (step <= parts - many) {
                    room.set(whole);
                    room.times(many + step);
                    many += reaches(room) ? step : 0;
                }
            }
            return many;
        }

        private void grow(int to) {
            while (size < to && size < LIMBS) {
                limbs[size] = 0;
                size++;
            }
        }

        private void push(int limb) {
            if (limb != 0 && size < LIMBS) {
                limbs[size] = limb;
                size++;
            }
        }

        private void trim() {
            while (size > 0 && limbs[size - 1] == 0) {
                size--;
            }
        }
    }

    /** Odds that so many of so many spins do it, exactly. */
    private static final class Chances {
        private final int pockets;
        private final Big sum = new Big();
        private final Big term = new Big();
        private final Big whole = new Big();
        private final Big thousands = new Big();
        private final Big room = new Big();
        private final Big won = new Big();
        private final Big lost = new Big();
        private final Big days = new Big();
        int needed;
        int neededOf;

        Chances(int pockets) {
            this.pockets = pockets;
        }

        /** How many sets of j pockets there are. */
        int sets(int j) {
            long many = 1;
            for (int i = 0; i < j; i++) {
                many = many * (pockets - i) / (i + 1);
            }
            return (int) many;
        }

        /** Millionths, 1000000 at most: that k or more of n are in j pockets of an even wheel, so many times. */
        int even(int n, int k, int j, int times) {
            addUp(n, k, j, pockets - j);
            sum.times(times);
            raise(whole, pockets, n);
            return sum.share(whole, MILLION, room);
        }

        /** The least thousandths by which x or more of n are 1 / told likely or more: more of them never hurt. */
        int least(int n, int x, int told) {
            raise(whole, SURELY, n);
            int tooFew = 0;
            for (int step = 512; step > 0; step /= 2) {
                int last = tooFew + step - 1;
                if (last < SURELY && !isLikely(n, x, last, told)) {
                    tooFew += step;
                }
            }
            return tooFew;
        }

        private boolean isLikely(int n, int x, int q, int told) {
            addUp(n, x, q, SURELY - q);
            sum.times(told);
            return sum.reaches(whole);
        }

        /** The fewest spins that tell a wheel, and of how many. A k too few for n spins is so for more spins. */
        void seek(int q, int told, int sure) {
            int k = 1;
            whole.set(1);
            thousands.set(1);
            for (int n = 1; n <= MOST_SPINS; n++) {
                whole.times(pockets);
                thousands.times(SURELY);
                while (k <= n && !isRare(n, k, told)) {
                    k++;
                }
                if (k <= n && isSure(n, k, q, sure)) {
                    needed = n;
                    neededOf = k;
                    return;
                }
            }
            needed = NONE;
            neededOf = NONE;
        }

        private boolean isRare(int n, int k, int told) {
            addUp(n, k, 1, pockets - 1);
            sum.times(told);
            return whole.reaches(sum);
        }

        private boolean isSure(int n, int k, int q, int sure) {
            addUp(n, k, q, SURELY - q);
            sum.times(SURELY);
            room.set(thousands);
            room.times(sure);
            return sum.reaches(room);
        }

        /** Millionths: that on g or more of so many days w or more of n bets on one pocket are won. */
        int luckyDays(int of, int g, int n, int w) {
            addUp(n, w, 1, pockets - 1);
            won.set(sum);
            raise(whole, pockets, n);
            lost.set(whole);
            lost.minus(won);
            days.set(0);
            int choices = 1;
            for (int i = 0; i <= of; i++) {
                if (i >= g) {
                    term.set(choices);
                    multiply(term, won, i);
                    multiply(term, lost, of - i);
                    days.plus(term);
                }
                choices = choices * (of - i) / (i + 1);
            }
            term.set(whole);
            multiply(term, whole, of - 1);
            return days.share(term, MILLION, room);
        }

        private void multiply(Big product, Big by, int often) {
            for (int i = 0; i < often; i++) {
                product.times(by, room);
            }
        }

        private static void raise(Big power, int base, int often) {
            power.set(1);
            for (int i = 0; i < often; i++) {
                power.times(base);
            }
        }

        /** The sum, over i from k to n, of (n over i) * a to the i * b to the (n - i), by Horner's rule in a. */
        private void addUp(int n, int k, int a, int b) {
            sum.set(0);
            term.set(1);
            for (int i = n; i >= k; i--) {
                sum.times(a);
                sum.plus(term);
                term.times(i * b);
                term.over(n - i + 1);
            }
            for (int i = 0; i < k; i++) {
                sum.times(a);
            }
        }
    }

    /** Which wheel stood at which table. An evening's answer is kept until something is told anew. */
    private static final class Where {
        private final Wheels wheels;
        private final Book book;
        /** A bit for each evening whose answer is kept. */
        private int settled;
        final int[] ways = new int[EVENINGS];
        final int[] sure = new int[EVENINGS];
        final int[] standing = new int[EVENINGS * TABLES];
        private final int[] spins = new int[TABLES];
        private final int[] trial = new int[TABLES];
        private final int[] sums = new int[WHEELS];
        private final Big[] chances = new Big[TABLES * WHEELS];
        private final Big[] products = new Big[TABLES + 1];
        private final Big best = new Big();
        private final Big all = new Big();
        private final Big room = new Big();

        Where(Wheels wheels, Book book) {
            this.wheels = wheels;
            this.book = book;
            for (int i = 0; i < chances.length; i++) {
                chances[i] = new Big();
            }
            for (int i = 0; i < products.length; i++) {
                products[i] = new Big();
            }
        }

        void forget() {
            settled = 0;
        }

        /** Puts a wheel's falls into a tally by pockets: how many there are. */
        int countFalls(int wheel, int[] tally) {
            int many = 0;
            Arrays.fill(tally, 0);
            for (int evening = 0; evening < EVENINGS; evening++) {
                settle(evening);
            }
            for (int i = 0; i < book.spinCount; i++) {
                int fell = book.fell[i];
                if (fell != NONE && standing[book.evening[i] * TABLES + book.table[i]] == wheel) {
                    tally[fell]++;
                    many++;
                }
            }
            return many;
        }

        void settle(int evening) {
            if ((settled >> evening & 1) == 1) {
                return;
            }
            settled |= 1 << evening;
            ways[evening] = 0;
            sure[evening] = NONE;
            for (int table = 0; table < TABLES; table++) {
                standing[evening * TABLES + table] = NONE;
                spins[table] = spinsAt(evening, table);
            }
            if (clashes(evening)) {
                return;
            }
            weigh(evening);
            products[0].set(1);
            all.set(0);
            stand(evening, 0, 0);
            if (spins[0] + spins[1] + spins[2] > 0) {
                sure[evening] = best.share(all, SURELY, room);
            }
        }

        private int spinsAt(int evening, int table) {
            int many = 0;
            for (int i = 0; i < book.spinCount; i++) {
                if (book.fellAt(i, evening, table)) {
                    many++;
                }
            }
            return many;
        }

        private boolean clashes(int evening) {
            for (int table = 0; table < TABLES; table++) {
                int told = book.scratches[evening * TABLES + table];
                if (told != NONE && isToldElsewhere(evening, table, told)) {
                    return true;
                }
            }
            return false;
        }

        private boolean isToldElsewhere(int evening, int table, int wheel) {
            for (int other = 0; other < TABLES; other++) {
                if (other != table && book.scratches[evening * TABLES + other] == wheel) {
                    return true;
                }
            }
            return false;
        }

        private boolean mayStand(int evening, int table, int wheel) {
            int told = book.scratches[evening * TABLES + table];
            return told == NONE ? !isToldElsewhere(evening, table, wheel) : told == wheel;
        }

        /** Each table's chances by each wheel, all over one and the same divisor: all wheels' sums, once a spin. */
        private void weigh(int evening) {
            for (int wheel = 0; wheel < WHEELS; wheel++) {
                sums[wheel] = wheels.leans(wheel);
            }
            for (int i = 0; i < chances.length; i++) {
                chances[i].set(1);
            }
            for (int i = 0; i < book.spinCount; i++) {
                if (book.evening[i] == evening && book.fell[i] != NONE) {
                    for (int wheel = 0; wheel < WHEELS; wheel++) {
                        weighSpin(chances[book.table[i] * WHEELS + wheel], wheel, book.fell[i]);
                    }
                }
            }
        }

        /** Two sums, or a sum and a lean, stay below one limb. */
        private void weighSpin(Big chance, int wheel, int fell) {
            int lean = wheels.lean[wheel * MOST_POCKETS + fell];
            chance.times(lean * sums[(wheel + 1) % WHEELS]);
            chance.times(sums[(wheel + 2) % WHEELS] * sums[(wheel + 3) % WHEELS]);
        }

        /** Goes through all ways from a table on; used has a bit for each wheel that stands at one ahead of it. */
        private void stand(int evening, int table, int used) {
            if (table >= TABLES) {
                judge(evening);
            } else if (spins[table] == 0) {
                trial[table] = NONE;
                products[table + 1].set(products[table]);
                stand(evening, table + 1, used);
            } else {
                for (int wheel = 0; wheel < WHEELS; wheel++) {
                    if ((used >> wheel & 1) == 0 && mayStand(evening, table, wheel)) {
                        trial[table] = wheel;
                        products[table + 1].set(products[table]);
                        products[table + 1].times(chances[table * WHEELS + wheel], room);
                        stand(evening, table + 1, used | 1 << wheel);
                    }
                }
            }
        }

        private void judge(int evening) {
            Big chance = products[TABLES];
            all.plus(chance);
            // Ways come in the order that settles like ones, so only a greater chance takes the place.
            if (ways[evening] == 0 || !best.reaches(chance)) {
                best.set(chance);
                System.arraycopy(trial, 0, standing, evening * TABLES, TABLES);
            }
            ways[evening]++;
        }
    }

    /** What is best of all that can be chosen: bets to reach a goal, days to move wheels on, a shoe's law. */
    private static final class Planner {
        static final int MOST_PURSE = 40;
        static final int MOST_DAYS = 20;
        /** Odds are HALF * high + low of HALF * HALF, which every bet's thousandths divide, ten times over. */
        static final long HALF = 1000000000000000L;
        static final long HALF_THOUSANDTH = 1000000000000L;
        static final long HALF_MILLIONTH = 1000000000L;
        static final long FAR = 1L << 60;
        /** More than 20 that were seen can be off together. */
        static final int FARTHEST = 1 << 30;

        private final long[] high = new long[MOST_PURSE + 1];
        private final long[] low = new long[MOST_PURSE + 1];
        private final long[] highThen = new long[MOST_PURSE + 1];
        private final long[] lowThen = new long[MOST_PURSE + 1];
        private long bestHigh;
        private long bestLow;
        private int bestStake;
        private final long[] played = new long[MOST_DAYS + 1];
        int millionths;
        int firstStake;
        int cost;
        int moves;
        boolean learnt;
        int least;
        int a;
        int b;
        int c;

        void reach(int purse, int goal, int bets, int q, int pay) {
            for (int had = 0; had <= MOST_PURSE; had++) {
                high[had] = had >= goal ? HALF : 0;
                low[had] = 0;
            }
            firstStake = 0;
            for (int left = 1; left <= bets; left++) {
                System.arraycopy(high, 0, highThen, 0, high.length);
                System.arraycopy(low, 0, lowThen, 0, low.length);
                for (int had = 0; had < goal; had++) {
                    stakeBest(had, q, pay);
                    high[had] = bestHigh;
                    low[had] = bestLow;
                    if (had == purse) {
                        firstStake = bestStake;
                    }
                }
            }
            millionths = (int) (high[purse] / HALF_MILLIONTH);
        }

        private void stakeBest(int had, int q, int pay) {
            bestHigh = NONE;
            bestLow = NONE;
            for (int stake = 0; stake <= had; stake++) {
                weighStake(had - stake, Math.min(MOST_PURSE, had + pay * stake), q, stake);
            }
        }

        private void weighStake(int lost, int won, int q, int stake) {
            long highs = q * highThen[won] + (SURELY - q) * highThen[lost];
            long lows = q * lowThen[won] + (SURELY - q) * lowThen[lost];
            long ofHigh = highs / SURELY;
            long ofLow = highs % SURELY * HALF_THOUSANDTH + lows / SURELY;
            if (ofLow >= HALF) {
                ofLow -= HALF;
                ofHigh++;
            }
            if (ofHigh > bestHigh || ofHigh == bestHigh && ofLow > bestLow) {
                bestHigh = ofHigh;
                bestLow = ofLow;
                bestStake = stake;
            }
        }

        /** A cost and its days are one number, the cost above MOST_DAYS bits, so that like costs go by the days. */
        void keep(int days, int move, int k, int loss) {
            played[0] = 0;
            for (int day = 0; day < days; day++) {
                long moved = FAR;
                for (int since = day; since >= 0; since--) {
                    moved = Math.min(moved, played[since]);
                    played[since + 1] = played[since] + lossAfter(since, k, loss);
                }
                moved += ((long) move << MOST_DAYS) + (1L << day) + lossAfter(0, k, loss);
                played[0] = FAR;
                played[1] = Math.min(played[1], moved);
            }
            long best = FAR;
            for (int since = 0; since <= days; since++) {
                best = Math.min(best, played[since]);
            }
            cost = (int) (best >> MOST_DAYS);
            moves = (int) (best & (1L << MOST_DAYS) - 1);
        }

        private static long lossAfter(int since, int k, int loss) {
            return since >= k ? (long) loss << MOST_DAYS : 0;
        }

        /** Looks for the law that fits best what a shoe has seen; it is kept until something else was seen. */
        void learn(Book book) {
            if (learnt) {
                return;
            }
            learnt = true;
            least = FARTHEST;
            for (int cs = 1; cs <= 20; cs++) {
                for (int as = 0; as <= 20; as++) {
                    for (int bs = -20; bs <= 20; bs++) {
                        compare(book, as, bs, cs);
                    }
                }
            }
        }

        private void compare(Book book, int as, int bs, int cs) {
            if (cs <= 0) {
                return;
            }
            int off = 0;
            for (int i = 0; i < book.sightCount && off < least; i++) {
                off += Math.abs((as * book.sightSpeed[i] + bs) / cs - book.sightTenth[i]);
            }
            if (off < least) {
                least = off;
                a = as;
                b = bs;
                c = cs;
            }
        }
    }
}
