import java.math.BigInteger;
import java.util.ArrayList;
import java.util.HashMap;
import java.util.List;
import java.util.Map;

/** The document once more, as slowly and as literally as it reads, for the tests to compare with. */
final class Model {
    static final BigInteger MILLION = BigInteger.valueOf(1000000);
    static final BigInteger THOUSAND = BigInteger.valueOf(1000);

    /** All that an image has. */
    static final class State {
        int[][] hold;
        int[][] lean;
        int[][][] skips = new int[4][8][4];
        int[] tilt = new int[4];
        int[] late = {10, 0, 0, 0, 0};
        int pay = 35;
        List<Text> texts = new ArrayList<>();
        int law = -1;
        List<List<int[]>> starts = new ArrayList<>();
        List<int[]> written = new ArrayList<>();
        int[][] told = new int[4][3];
        List<int[]> bets = new ArrayList<>();
        List<int[]> seen = new ArrayList<>();

        State(int n) {
            hold = new int[4][n];
            lean = new int[4][n];
            for (int w = 0; w < 4; w++) {
                java.util.Arrays.fill(hold[w], 10);
                java.util.Arrays.fill(lean[w], 10);
                for (int s = 0; s < 8; s++) {
                    skips[w][s][0] = 10;
                }
                starts.add(new ArrayList<>());
            }
            for (int e = 0; e < 4; e++) {
                java.util.Arrays.fill(told[e], -1);
            }
        }

        State copy(int n) {
            State c = new State(n);
            for (int w = 0; w < 4; w++) {
                c.hold[w] = hold[w].clone();
                c.lean[w] = lean[w].clone();
                for (int s = 0; s < 8; s++) {
                    c.skips[w][s] = skips[w][s].clone();
                }
                c.starts.get(w).addAll(starts.get(w));
                c.told[w] = told[w].clone();
            }
            c.tilt = tilt.clone();
            c.late = late.clone();
            c.pay = pay;
            c.texts.addAll(texts);
            c.law = law;
            c.written.addAll(written);
            c.bets.addAll(bets);
            c.seen.addAll(seen);
            return c;
        }
    }

    /** A clause's sum. */
    interface Sum {
        int value(Map<String, Integer> names);
    }

    static final class Text {
        final Map<String, Sum> clauses = new HashMap<>();
    }

    static final class Fault extends Exception {
        private static final long serialVersionUID = 1;
        final int why;
        final int place;

        Fault(int why, int place) {
            this.why = why;
            this.place = place;
        }
    }

    final int n;
    State s;
    State then;
    List<Integer> tape = new ArrayList<>();
    int fault = -1;
    int place = -1;

    Model(int pockets) {
        n = pockets < 5 ? 5 : pockets > 37 ? 37 : pockets;
        s = new State(n);
        then = s.copy(n);
    }

    private static boolean in(int v, int low, int high) {
        return low <= v && v <= high;
    }

    boolean pocket(int wheel, int pocket, int hold, int lean) {
        if (in(wheel, 0, 3) && in(pocket, 0, n - 1) && in(hold, 1, 10) && in(lean, 1, 99)) {
            s.hold[wheel][pocket] = hold;
            s.lean[wheel][pocket] = lean;
            return true;
        }
        return false;
    }

    private static boolean tenths(int... v) {
        long sum = 0;
        for (int x : v) {
            if (!in(x, 0, 10)) {
                return false;
            }
            sum += x;
        }
        return sum == 10;
    }

    boolean stud(int wheel, int stud, int none, int one, int two, int three) {
        if (in(wheel, 0, 3) && in(stud, 0, 7) && tenths(none, one, two, three)) {
            s.skips[wheel][stud] = new int[] {none, one, two, three};
            return true;
        }
        return false;
    }

    boolean tilt(int wheel, int v) {
        if (in(wheel, 0, 3) && in(v, 0, 99)) {
            s.tilt[wheel] = v;
            return true;
        }
        return false;
    }

    boolean late(int none, int one, int two, int three, int four) {
        if (tenths(none, one, two, three, four)) {
            s.late = new int[] {none, one, two, three, four};
            return true;
        }
        return false;
    }

    boolean pays(int v) {
        if (in(v, 1, 99)) {
            s.pay = v;
            return true;
        }
        return false;
    }

    int feed(int a, int b, int c, int d, int e) {
        if (tape.size() + 20 > 300) {
            return -1;
        }
        for (int v : new int[] {a, b, c, d, e}) {
            for (byte one : java.nio.ByteBuffer.allocate(4).putInt(v).array()) {
                tape.add(one & 255);
            }
        }
        return tape.size();
    }

    int end(int k) {
        if (k < 0 || k > tape.size()) {
            return -1;
        }
        tape = new ArrayList<>(tape.subList(0, k));
        return k;
    }

    int text() {
        if (s.texts.size() == 6) {
            return -1;
        }
        List<Integer> read = tape;
        tape = new ArrayList<>();
        try {
            Text t = new Parser(read).parse();
            fault = 0;
            place = -1;
            s.texts.add(t);
            return s.texts.size() - 1;
        } catch (Fault f) {
            fault = f.why;
            place = f.place;
            return -1;
        }
    }

    int fault(int what) {
        return what == 0 ? fault : what == 1 ? place : -1;
    }

    boolean law(int text) {
        if (!in(text, -1, s.texts.size() - 1)) {
            return false;
        }
        s.law = text;
        return true;
    }

    /** Reads by splitting into tokens first. */
    static final class Parser {
        private final List<String> tokens = new ArrayList<>();
        private final List<Integer> places = new ArrayList<>();
        private int next = 0;
        private String clause = "";

        Parser(List<Integer> bytes) {
            StringBuilder b = new StringBuilder();
            for (int v : bytes) {
                b.append((char) v);
            }
            java.util.regex.Matcher m = java.util.regex.Pattern
                    .compile("[a-zA-Z]+|[0-9]+|[ \n]+|.", java.util.regex.Pattern.DOTALL).matcher(b);
            while (m.find()) {
                if (!m.group().matches("[ \n]+")) {
                    tokens.add(m.group());
                    places.add(m.start());
                }
            }
            tokens.add("");
            places.add(bytes.size());
        }

        private Fault fault(int why) {
            return new Fault(why, places.get(next));
        }

        Text parse() throws Fault {
            Text t = new Text();
            while (!tokens.get(next).isEmpty()) {
                clause = tokens.get(next);
                if (!clause.matches("loss|off|stake|on")) {
                    throw fault(1);
                }
                if (t.clauses.containsKey(clause)) {
                    throw fault(4);
                }
                next++;
                t.clauses.put(clause, sum(0));
                want(";");
            }
            return t;
        }

        private void want(String token) throws Fault {
            if (!tokens.get(next).equals(token)) {
                throw fault(1);
            }
            next++;
        }

        private static int cut(long v) {
            return (int) (v > 1000000 ? 1000000 : v < -1000000 ? -1000000 : v);
        }

        private Sum sum(int open) throws Fault {
            Sum left = product(open);
            while (tokens.get(next).matches("[+-]")) {
                boolean plus = tokens.get(next++).equals("+");
                Sum l = left;
                Sum r = product(open);
                left = v -> cut(plus ? (long) l.value(v) + r.value(v) : (long) l.value(v) - r.value(v));
            }
            return left;
        }

        private Sum product(int open) throws Fault {
            Sum left = one(open);
            while (tokens.get(next).matches("[*/]")) {
                boolean times = tokens.get(next++).equals("*");
                Sum l = left;
                Sum r = one(open);
                left = v -> cut(times ? (long) l.value(v) * r.value(v)
                        : r.value(v) == 0 ? 0 : l.value(v) / r.value(v));
            }
            return left;
        }

        private Sum one(int open) throws Fault {
            String t = tokens.get(next);
            if (t.matches("[0-9]+")) {
                if (new BigInteger(t).compareTo(BigInteger.valueOf(9999)) > 0) {
                    throw fault(2);
                }
                next++;
                int number = Integer.parseInt(t);
                return v -> number;
            }
            if (t.equals("-")) {
                if (open == 8) {
                    throw fault(3);
                }
                next++;
                Sum of = one(open + 1);
                return v -> -of.value(v);
            }
            if (t.equals("(")) {
                if (open == 8) {
                    throw fault(3);
                }
                next++;
                Sum of = sum(open + 1);
                want(")");
                return of;
            }
            if (t.matches("min|max")) {
                next++;
                if (tokens.get(next).equals("(") && open == 8) {
                    throw fault(3);
                }
                want("(");
                Sum l = sum(open + 1);
                want(",");
                Sum r = sum(open + 1);
                want(")");
                return v -> t.equals("min") ? Math.min(l.value(v), r.value(v)) : Math.max(l.value(v), r.value(v));
            }
            boolean ofLaw = t.matches("speed|point|tenth|tilt|side");
            boolean ofWay = t.matches("purse|spin|last|lost|most|won");
            if (!ofLaw && !ofWay) {
                throw fault(1);
            }
            if (ofLaw != clause.matches("loss|off")) {
                throw fault(5);
            }
            next++;
            return v -> v.get(t);
        }
    }

    private int clause(int text, String clause, Map<String, Integer> names, int without) {
        if (text == -1 || !s.texts.get(text).clauses.containsKey(clause)) {
            return without;
        }
        return s.texts.get(text).clauses.get(clause).value(names);
    }

    /** A drop: when off, the stud, the pocket; then thousandths of each pocket. */
    private int[] dropped(int wheel, int point, int speed, int dish, int turn) {
        int ring = 8 * n;
        int t = 0;
        while (true) {
            Map<String, Integer> names = Map.of("speed", speed, "point", point, "tenth", t, "tilt", s.tilt[wheel],
                    "side", point / n);
            if (speed <= clause(s.law, "off", names, 8) || speed < 1 || t == 600) {
                break;
            }
            int loss = Math.min(999, Math.max(1, clause(s.law, "loss", names, 1)));
            point = (point + speed) % ring;
            speed -= loss;
            t++;
        }
        int stud = (point / n + 1) % 8;
        int away = stud * n - (dish - turn * t);
        away = (away % ring + ring) % ring;
        int[] r = new int[3 + n];
        r[0] = t;
        r[1] = stud;
        r[2] = away / 8;
        for (int k = 0; k < 4; k++) {
            int p = (r[2] + k) % n;
            int left = s.skips[wheel][stud][k] * 100;
            for (int i = 0; i < 3; i++) {
                int stays = i == 2 ? left : left * s.hold[wheel][p] / 10;
                r[3 + p] += stays;
                left -= stays;
                p = (p + 1) % n;
            }
        }
        return r;
    }

    private boolean fits(int point, int speed, int dish, int turn) {
        return in(point, 0, 8 * n - 1) && in(speed, 1, 999) && in(dish, 0, 8 * n - 1) && in(turn, 0, 99);
    }

    int drop(int wheel, int point, int speed, int dish, int turn, int what) {
        if (!in(wheel, 0, 3) || !fits(point, speed, dish, turn)) {
            return -1;
        }
        int[] r = dropped(wheel, point, speed, dish, turn);
        return in(what, 0, 2) ? r[what] : in(what, 100, 99 + n) ? r[3 + what - 100] : -1;
    }

    int foretold(int wheel, int point, int speed, int dish, int turn, int what) {
        if (!in(wheel, 0, 3) || !fits(point, speed, dish, turn)) {
            return -1000000;
        }
        if (in(what, 200, 800)) {
            return dropped(wheel, point, speed, dish, turn)[0] >= what - 200 ? 1 : 0;
        }
        int[] odds = new int[n];
        int ring = 8 * n;
        for (int l = 0; l < 5; l++) {
            int back = ((dish - turn * l) % ring + ring) % ring;
            int[] r = dropped(wheel, (point + speed * l) % ring, speed, back, turn);
            for (int p = 0; p < n; p++) {
                odds[p] += s.late[l] * r[3 + p];
            }
        }
        int best = 0;
        for (int p = 0; p < n; p++) {
            if (odds[p] > odds[best]) {
                best = p;
            }
        }
        switch (what) {
            case 0: return best;
            case 1: return odds[best];
            case 2: return odds[best] * (s.pay + 1) - 10000;
            default: return in(what, 100, 99 + n) ? odds[what - 100] : -1000000;
        }
    }

    int start(int hand, int point, int speed, int dish, int turn, int weight) {
        if (!in(hand, 0, 3) || !fits(point, speed, dish, turn) || !in(weight, 1, 9)
                || s.starts.get(hand).size() == 6) {
            return -1;
        }
        s.starts.get(hand).add(new int[] {point, speed, dish, turn, weight});
        return s.starts.get(hand).size();
    }

    int odds(int wheel, int hand, int pocket) {
        if (!in(wheel, 0, 3) || !in(hand, 0, 3) || !in(pocket, -1, n - 1)) {
            return -1;
        }
        int sum = 0;
        for (int[] a : s.starts.get(hand)) {
            sum += a[4] * (pocket == -1 ? 1000 : dropped(wheel, a[0], a[1], a[2], a[3])[3 + pocket]);
        }
        return sum;
    }

    int write(int evening, int table, int hand, int pocket) {
        if (!in(evening, 0, 3) || !in(table, 0, 2) || !in(hand, 0, 3) || !in(pocket, -1, n - 1)) {
            return -1;
        }
        if (s.written.size() == 200 || s.written.stream().filter(w -> w[0] == evening).count() == 24) {
            return -1;
        }
        s.written.add(new int[] {evening, table, hand, pocket});
        return s.written.size();
    }

    boolean scratch(int evening, int table, int wheel) {
        if (!in(evening, 0, 3) || !in(table, 0, 2) || !in(wheel, -1, 3)) {
            return false;
        }
        s.told[evening][table] = wheel;
        return true;
    }

    private List<Integer> spins(int evening, int table) {
        List<Integer> r = new ArrayList<>();
        for (int[] w : s.written) {
            if (w[0] == evening && w[1] == table && w[3] >= 0) {
                r.add(w[3]);
            }
        }
        return r;
    }

    /** The likeliest: a wheel for each table (NONE without spins), SURE, how many ways. */
    private int[] where(int evening) {
        int[] r = {-1, -1, -1, -1, 0};
        int[] told = s.told[evening];
        if (told[0] >= 0 && (told[0] == told[1] || told[0] == told[2]) || told[1] >= 0 && told[1] == told[2]) {
            return r;
        }
        BigInteger product = BigInteger.ONE;
        int[] sums = new int[4];
        for (int w = 0; w < 4; w++) {
            for (int l : s.lean[w]) {
                sums[w] += l;
            }
            product = product.multiply(BigInteger.valueOf(sums[w]));
        }
        BigInteger scale = product.pow(24);
        BigInteger all = BigInteger.ZERO;
        BigInteger best = BigInteger.valueOf(-1);
        for (int way = 0; way < 125; way++) {
            int[] at = {way / 25 - 1, way / 5 % 5 - 1, way % 5 - 1};
            boolean can = true;
            BigInteger chance = scale;
            for (int t = 0; t < 3; t++) {
                List<Integer> spins = spins(evening, t);
                can &= spins.isEmpty() == (at[t] < 0);
                for (int u = 0; u < 3; u++) {
                    can &= u == t || at[t] < 0 || at[t] != at[u] && at[t] != told[u];
                }
                can &= at[t] < 0 || told[t] < 0 || told[t] == at[t];
                for (int p : spins) {
                    if (can) {
                        chance = chance.multiply(BigInteger.valueOf(s.lean[at[t]][p]))
                                .divide(BigInteger.valueOf(sums[at[t]]));
                    }
                }
            }
            if (can) {
                r[4]++;
                all = all.add(chance);
                if (chance.compareTo(best) > 0) {
                    best = chance;
                    System.arraycopy(at, 0, r, 0, 3);
                }
            }
        }
        if (r[0] >= 0 || r[1] >= 0 || r[2] >= 0) {
            r[3] = best.multiply(THOUSAND).divide(all).intValueExact();
        }
        return r;
    }

    int which(int evening, int table) {
        if (!in(evening, 0, 3) || !in(table, -2, 2)) {
            return -1;
        }
        int[] r = where(evening);
        return table == -2 ? r[4] : table == -1 ? r[3] : r[table];
    }

    private int[] fallen(int wheel) {
        int[] r = new int[n];
        for (int e = 0; e < 4; e++) {
            int[] at = where(e);
            for (int t = 0; t < 3; t++) {
                if (at[t] == wheel) {
                    for (int p : spins(e, t)) {
                        r[p]++;
                    }
                }
            }
        }
        return r;
    }

    int falls(int wheel, int pocket) {
        if (!in(wheel, 0, 3) || !in(pocket, -1, n - 1)) {
            return -1;
        }
        int[] f = fallen(wheel);
        return pocket == -1 ? java.util.stream.IntStream.of(f).sum() : f[pocket];
    }

    int nine(int wheel, int j, int what) {
        if (!in(wheel, 0, 3) || !in(j, 1, Math.min(9, n - 1))) {
            return -1;
        }
        int[] f = fallen(wheel);
        List<Integer> order = new ArrayList<>();
        for (int p = 0; p < n; p++) {
            order.add(p);
        }
        order.sort((a, b) -> f[a] != f[b] ? f[b] - f[a] : a - b);
        List<Integer> most = new ArrayList<>(order.subList(0, j));
        most.sort(null);
        int together = 0;
        for (int p : most) {
            together += f[p];
        }
        if (what == 0) {
            return together;
        }
        if (what == 1) {
            int all = java.util.stream.IntStream.of(f).sum();
            return in(all, 1, 60) ? among(all, together, j) : -1;
        }
        return in(what, 10, 9 + j) ? most.get(what - 10) : -1;
    }

    private static BigInteger over(int n, int k) {
        BigInteger r = BigInteger.ONE;
        for (int i = 0; i < k; i++) {
            r = r.multiply(BigInteger.valueOf(n - i)).divide(BigInteger.valueOf(i + 1));
        }
        return r;
    }

    /** That from..to of n do it, each a of a + b, times (a + b) to the n. */
    private static BigInteger chance(int n, int from, int to, int a, int b) {
        BigInteger r = BigInteger.ZERO;
        for (int i = from; i <= to; i++) {
            r = r.add(over(n, i).multiply(BigInteger.valueOf(a).pow(i)).multiply(BigInteger.valueOf(b).pow(n - i)));
        }
        return r;
    }

    private int millionths(BigInteger upper, BigInteger lower) {
        return upper.multiply(MILLION).divide(lower).min(MILLION).intValueExact();
    }

    int above(int m, int k, int j) {
        if (!in(m, 1, 60) || !in(k, 0, m) || !in(j, 1, n - 1)) {
            return -1;
        }
        return millionths(chance(m, k, m, j, n - j), BigInteger.valueOf(n).pow(m));
    }

    int among(int m, int k, int j) {
        if (!in(m, 1, 60) || !in(k, 0, m) || !in(j, 1, Math.min(9, n - 1))) {
            return -1;
        }
        return millionths(chance(m, k, m, j, n - j).multiply(over(n, j)), BigInteger.valueOf(n).pow(m));
    }

    int span(int m, int x, int told, boolean high) {
        if (!in(m, 1, 60) || !in(x, 0, m) || !in(told, 2, 1000000)) {
            return -1;
        }
        BigInteger least = THOUSAND.pow(m);
        int answer = -1;
        for (int q = 0; q <= 1000; q++) {
            BigInteger t = BigInteger.valueOf(told);
            if (chance(m, x, m, q, 1000 - q).multiply(t).compareTo(least) >= 0
                    && chance(m, 0, x, q, 1000 - q).multiply(t).compareTo(least) >= 0) {
                if (high || answer == -1) {
                    answer = q;
                }
            }
        }
        return answer;
    }

    int need(int q, int told, int sure, int what) {
        if (!in(q, 1, 999) || !in(told, 2, 1000000) || !in(sure, 1, 999) || !in(what, 0, 1)) {
            return -1;
        }
        for (int m = 1; m <= 60; m++) {
            for (int k = 0; k <= m; k++) {
                boolean rare = chance(m, k, m, 1, n - 1).multiply(BigInteger.valueOf(told))
                        .compareTo(BigInteger.valueOf(n).pow(m)) <= 0;
                if (rare && chance(m, k, m, q, 1000 - q).multiply(THOUSAND)
                        .compareTo(THOUSAND.pow(m).multiply(BigInteger.valueOf(sure))) >= 0) {
                    return what == 0 ? m : k;
                }
            }
        }
        return -1;
    }

    int habit(int hand, int width, int what) {
        if (!in(hand, 0, 3) || !in(width, 1, 4) || !in(what, 0, 3)) {
            return -1;
        }
        List<Integer> fell = new ArrayList<>();
        for (int[] w : s.written) {
            if (w[2] == hand && w[3] >= 0) {
                fell.add(w[3]);
            }
        }
        List<Integer> far = new ArrayList<>();
        for (int i = 1; i < fell.size(); i++) {
            far.add((fell.get(i) - fell.get(i - 1) + n) % n);
        }
        if (far.isEmpty()) {
            return -1;
        }
        int best = -1;
        int first = -1;
        for (int f = 0; f < n; f++) {
            int many = 0;
            for (int d : far) {
                many += (d - f + n) % n < width ? 1 : 0;
            }
            if (many > best) {
                best = many;
                first = f;
            }
        }
        int m = far.size();
        switch (what) {
            case 0: return first;
            case 1: return best;
            case 2: return m;
            default: return m > 60 ? -1 : millionths(chance(m, best, m, width, n - width)
                    .multiply(BigInteger.valueOf(n)), BigInteger.valueOf(n).pow(m));
        }
    }

    private BigInteger reach(int purse, int goal, int left, int q, int[] first, Map<Integer, BigInteger> known) {
        if (purse >= goal) {
            return THOUSAND.pow(left);
        }
        if (left == 0) {
            return BigInteger.ZERO;
        }
        int key = purse * 100 + left;
        if (known.containsKey(key) && first == null) {
            return known.get(key);
        }
        BigInteger best = null;
        for (int stake = 0; stake <= purse; stake++) {
            BigInteger won = reach(Math.min(40, purse + s.pay * stake), goal, left - 1, q, null, known);
            BigInteger lost = reach(purse - stake, goal, left - 1, q, null, known);
            BigInteger v = won.multiply(BigInteger.valueOf(q)).add(lost.multiply(BigInteger.valueOf(1000 - q)));
            if (best == null || v.compareTo(best) > 0) {
                best = v;
                if (first != null) {
                    first[0] = stake;
                }
            }
        }
        known.put(key, best);
        return best;
    }

    int goal(int purse, int goal, int bets, int q, int what) {
        if (!in(purse, 0, 40) || !in(goal, 1, 40) || !in(bets, 0, 10) || !in(q, 0, 1000) || !in(what, 0, 1)) {
            return -1;
        }
        int[] first = {0};
        BigInteger v = reach(purse, goal, bets, q, first, new HashMap<>());
        return what == 1 ? first[0] : millionths(v, THOUSAND.pow(bets));
    }

    int luck(int days, int g, int m, int w) {
        if (!in(days, 1, 4) || !in(g, 0, days) || !in(m, 1, 20) || !in(w, 0, m)) {
            return -1;
        }
        BigInteger all = BigInteger.valueOf(n).pow(m);
        BigInteger day = chance(m, w, m, 1, n - 1);
        BigInteger sum = BigInteger.ZERO;
        for (int lucky = 0; lucky < 1 << days; lucky++) {
            BigInteger v = BigInteger.ONE;
            for (int d = 0; d < days; d++) {
                v = v.multiply((lucky >> d & 1) == 1 ? day : all.subtract(day));
            }
            sum = Integer.bitCount(lucky) >= g ? sum.add(v) : sum;
        }
        return millionths(sum, all.pow(days));
    }

    int run(int text, int evening, int table, int purse, int what) {
        if (!in(text, 0, s.texts.size() - 1) || !in(evening, 0, 3) || !in(table, 0, 2) || !in(purse, 1, 9999)
                || !in(what, 0, 2)) {
            return -1;
        }
        int least = purse;
        int wins = 0;
        int lost = 0;
        List<Integer> spins = spins(evening, table);
        for (int i = 0; i < spins.size(); i++) {
            Map<String, Integer> names = new HashMap<>();
            int[] came = new int[n];
            for (int p : spins.subList(0, i)) {
                came[p]++;
            }
            int most = i == 0 ? -1 : 0;
            for (int p = 0; p < n && i > 0; p++) {
                most = came[p] > came[most] ? p : most;
            }
            names.put("purse", purse);
            names.put("spin", i);
            names.put("last", i == 0 ? -1 : spins.get(i - 1));
            names.put("lost", lost);
            names.put("most", most);
            names.put("won", wins);
            int on = clause(text, "on", names, most);
            int stake = Math.min(purse, Math.max(0, clause(text, "stake", names, 1)));
            stake = on < 0 ? 0 : stake;
            if (stake > 0 && on % n == spins.get(i)) {
                purse = Math.min(999999, purse + s.pay * stake);
                wins++;
                lost = 0;
            } else if (stake > 0) {
                purse -= stake;
                lost++;
            }
            least = Math.min(least, purse);
        }
        return what == 0 ? purse : what == 1 ? least : wins;
    }

    int bet(int bettor, int spin, int pocket) {
        if (!in(bettor, 0, 3) || !in(spin, 0, s.written.size() - 1) || !in(pocket, 0, n - 1)
                || s.written.get(spin)[3] < 0 || s.bets.size() == 60) {
            return -1;
        }
        for (int[] b : s.bets) {
            if (b[0] == bettor && b[1] == spin) {
                return -1;
            }
        }
        s.bets.add(new int[] {bettor, spin, pocket});
        return s.bets.size();
    }

    int watched(int bettor, int what) {
        if (!in(bettor, 0, 3) || !in(what, 0, 2)) {
            return -1;
        }
        int many = 0;
        int won = 0;
        for (int[] b : s.bets) {
            if (b[0] == bettor) {
                many++;
                won += s.written.get(b[1])[3] == b[2] ? 1 : 0;
            }
        }
        return what == 0 ? many : what == 1 ? won : many == 0 ? -1 : above(many, won, 1);
    }

    int house(int days, int move, int k, int loss, int what) {
        if (!in(days, 1, 20) || !in(move, 0, 9999) || !in(k, 0, 20) || !in(loss, 0, 9999) || !in(what, 0, 1)) {
            return -1;
        }
        int best = Integer.MAX_VALUE;
        int bits = 0;
        for (int b = 0; b < 1 << days; b++) {
            int cost = 0;
            int since = 0;
            for (int d = 0; d < days; d++) {
                if ((b >> d & 1) == 1) {
                    cost += move;
                    since = 0;
                }
                cost += since >= k ? loss : 0;
                since++;
            }
            if (cost < best) {
                best = cost;
                bits = b;
            }
        }
        return what == 0 ? best : bits;
    }

    int seen(int speed, int tenth) {
        if (!in(speed, 1, 999) || !in(tenth, 0, 600) || s.seen.size() == 20) {
            return -1;
        }
        s.seen.add(new int[] {speed, tenth});
        return s.seen.size();
    }

    int shoe(int what) {
        if (!in(what, 0, 3) || s.seen.isEmpty()) {
            return -1000;
        }
        int[] best = {Integer.MAX_VALUE, 0, 0, 0};
        for (int c = 1; c <= 20; c++) {
            for (int a = 0; a <= 20; a++) {
                for (int b = -20; b <= 20; b++) {
                    int off = 0;
                    for (int[] v : s.seen) {
                        off += Math.abs((a * v[0] + b) / c - v[1]);
                    }
                    if (off < best[0]) {
                        best = new int[] {off, a, b, c};
                    }
                }
            }
        }
        return best[what];
    }

    int image() {
        then = s.copy(n);
        return s.written.size();
    }

    int back() {
        s = then.copy(n);
        return s.written.size();
    }

    int about(int what) {
        switch (what) {
            case 0: return n;
            case 1: return s.texts.size();
            case 2: return s.law;
            case 3: return s.written.size();
            case 4: return s.bets.size();
            case 5: return s.seen.size();
            case 6: return tape.size();
            case 7: return s.pay;
            default:
                if (in(what, 10, 13)) {
                    return s.starts.get(what - 10).size();
                }
                return in(what, 20, 23) ? java.util.stream.IntStream.of(s.lean[what - 20]).sum() : -1;
        }
    }
}
