import java.util.Random;

/** Makes texts: most sound, some with a fault somewhere. */
final class TextMaker {
    private static final String[] CLAUSES = {"loss", "off", "stake", "on"};
    private static final String[] OF_LAW = {"speed", "point", "tenth", "tilt", "side"};
    private static final String[] OF_WAY = {"purse", "spin", "last", "lost", "most", "won"};
    private static final String[] ODD = {"", ";", "(", ")", "-", "--", "+", "*", "/", ",", "min", "max", "min(", "speed",
        "purse", "loss", "off ", "on", "9999", "10000", "00009", "99999999999999", ".", "\t", "\u00e9", "A", " ", "\n",
        "((((((((", "--------", "---------", "(((((((((", "0", "loss 1;"};
    private final Random random;

    TextMaker(Random random) {
        this.random = random;
    }

    String text() {
        StringBuilder b = new StringBuilder();
        int shift = random.nextInt(4);
        for (int i = 0; i < 4; i++) {
            int clause = (i + shift) % 4;
            if (random.nextInt(4) > 0) {
                b.append(blanks(random.nextInt(2)));
                b.append(CLAUSES[clause]).append(blanks(1)).append(sum(clause < 2, 2)).append(";");
            }
        }
        if (random.nextInt(3) == 0) {
            int at = random.nextInt(b.length() + 1);
            int until = random.nextBoolean() ? at : Math.min(b.length(), at + random.nextInt(4));
            b.replace(at, until, ODD[random.nextInt(ODD.length)]);
        }
        return b.length() > 300 ? "loss 2;" : b.toString();
    }

    private String blanks(int least) {
        String s = "";
        for (int i = least + (random.nextInt(5) == 0 ? random.nextInt(3) : 0); i > 0; i--) {
            s += random.nextInt(4) == 0 ? "\n" : " ";
        }
        return s;
    }

    private String sum(boolean law, int depth) {
        String s = product(law, depth);
        while (random.nextInt(3) == 0) {
            s += blanks(0) + (random.nextBoolean() ? "+" : "-") + blanks(0) + product(law, depth);
        }
        return s;
    }

    private String product(boolean law, int depth) {
        String s = one(law, depth);
        while (random.nextInt(4) == 0) {
            s += blanks(0) + (random.nextBoolean() ? "*" : "/") + blanks(0) + one(law, depth);
        }
        return s;
    }

    private String one(boolean law, int depth) {
        int r = random.nextInt(depth > 0 ? 9 : 6);
        if (r < 3) {
            return "" + random.nextInt(r == 0 ? 10000 : 12);
        }
        if (r < 6) {
            String[] names = law ? OF_LAW : OF_WAY;
            return names[random.nextInt(names.length)];
        }
        if (r == 6) {
            return "(" + sum(law, depth - 1) + ")";
        }
        return r == 7 ? "-" + one(law, depth - 1)
                : (random.nextBoolean() ? "min" : "max") + blanks(0) + "(" + sum(law, depth - 1) + "," + sum(law, depth - 1) + ")";
    }
}
