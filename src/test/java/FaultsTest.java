/** FAULTS: which it is where two could be, and where it is told; what is a TOKEN, and what can stand where. */
public final class FaultsTest {
    private static final Checks c = new Checks();
    private static final String[] OF_LAW = {"speed", "point", "tenth", "tilt", "side"};
    private static final String[] OF_WAY = {"purse", "spin", "last", "lost", "most", "won"};
    private static final String[] CLAUSES = {"loss", "off", "stake", "on"};

    public static void main(String[] args) {
        clauses();
        eachOnce();
        ends();
        tokens();
        words();
        numbers();
        namesOfClauses();
        leastOfOneToken();
        firstOfTokens();
        opens();
        opensAtOnce();
        latest();
        c.close();
    }

    private static void sound(String text) {
        c.fault(text, 0, -1);
    }

    private static void clauses() {
        sound("");
        sound("\n");
        sound("loss 1; off 2; stake 3; on 4;");
        sound("on 4; stake 3; off 2; loss 1;");
        for (String clause : CLAUSES) {
            sound(clause + " 1;");
            sound(" \n" + clause + "\n 1 \n; ");
            c.fault(clause, 1, clause.length());
            c.fault(clause + ";", 1, clause.length());
            c.fault(clause + " 1", 1, clause.length() + 2);
            c.fault(clause + " 1,", 1, clause.length() + 2);
            c.fault(clause + " 1;;", 1, clause.length() + 3);
        }
        for (String first : new String[] {"1", "(", ")", "+", "-", "*", "/", ",", ";", "min", "max", "foo", "speed", "won"}) {
            c.fault(first, 1, 0);
            c.fault("off 3; " + first, 1, 7);
        }
    }

    private static void eachOnce() {
        for (String clause : CLAUSES) {
            int place = clause.length() + 4;
            c.fault(clause + " 1; " + clause + " 1;", 4, place);
            c.fault(clause + " 1; " + clause, 4, place);
            c.fault(clause + " 1; " + clause + " foo", 4, place);
            for (String other : CLAUSES) {
                if (!other.equals(clause)) {
                    sound(clause + " 1; " + other + " 1;");
                    c.fault(clause + " 1; " + other + " 1; " + clause + " 1;", 4, place + other.length() + 4);
                }
            }
        }
        c.fault("loss 1; off 1; stake 1; on 1; on 1;", 4, 30);
        c.fault("loss 1; off 1; stake 1; on 1; loss 1;", 4, 30);
    }

    private static void ends() {
        c.fault("off", 1, 3);
        c.fault("off  ", 1, 5);
        c.fault("off\n\n1\n\n", 1, 8);
        c.fault("off 1 +", 1, 7);
        c.fault("off 1 * ", 1, 8);
        c.fault("off -", 1, 5);
        c.fault("off (", 1, 5);
        c.fault("off (1", 1, 6);
        c.fault("off (1)", 1, 7);
        c.fault("off min", 1, 7);
        c.fault("off min(", 1, 8);
        c.fault("off min(1", 1, 9);
        c.fault("off min(1,", 1, 10);
        c.fault("off min(1,2", 1, 11);
        c.fault("off min(1,2)", 1, 12);
        c.fault("off 1; on", 1, 9);
    }

    /** Bytes beside those that begin a TOKEN. */
    private static void tokens() {
        for (int b : new int[] {0, 9, 11, 13, 31, 33, 39, 46, 58, 60, 64, 91, 96, 123, 127, 128, 160, 255}) {
            char sign = (char) b;
            c.fault("off " + sign + "1;", 1, 4);
            c.fault("off 1" + sign + ";", 1, 5);
            c.fault(sign + "off 1;", 1, 0);
            c.fault("off 1;" + sign, 1, 6);
            c.fault("o" + sign + "ff 1;", 1, 0);
            c.fault("off 1" + sign + "1;", 1, 5);
        }
        sound("off(1)+(2)*(3)/(4)-(5);");
        sound("off min(1,2)-max(1,2);");
    }

    /** Letters one behind the other are one TOKEN, digits likewise, and one of the other kind ends them. */
    private static void words() {
        sound("off1;");
        sound("off1;on1;");
        sound("off speed*2;");
        sound("off min(1,2)+max\n(1 , 2);");
        for (String word : new String[] {"offs", "of", "Off", "OFF", "ofF", "offoff", "offspeed", "o ff", "zoff", "Zoff"}) {
            c.fault(word + " 1;", 1, 0);
        }
        for (String name : new String[] {"spee", "speeds", "Speed", "SPEED", "speedpoint", "a", "z", "A", "Z", "minimum",
            "Min", "MAX", "mi", "maxmin"}) {
            c.fault("off " + name + ";", 1, 4);
            c.fault("off 1 + " + name + "(1,2);", 1, 8);
        }
        c.fault("off 1a;", 1, 5);
        c.fault("off a1;", 1, 4);
        c.fault("off speed1;", 1, 9);
        c.fault("off 1speed;", 1, 5);
        c.fault("off 1 1;", 1, 6);
        c.fault("off 1\n1;", 1, 6);
        c.fault("off sp eed;", 1, 4);
        c.fault("off m in(1,2);", 1, 4);
    }

    private static void numbers() {
        sound("off 0;");
        sound("off 9999;");
        sound("off 0009999;");
        sound("off 00000000000000000000000000;");
        c.fault("off 10000;", 2, 4);
        c.fault("off 010000;", 2, 4);
        c.fault("off 99990;", 2, 4);
        c.fault("off 2147483648;", 2, 4);
        c.fault("off 4294967296;", 2, 4);
        c.fault("off 4294967301;", 2, 4);
        c.fault("off 18446744073709551616;", 2, 4);
        c.fault("off 18446744073709551621;", 2, 4);
        c.fault("off 1 + 10000;", 2, 8);
        c.fault("off -10000;", 2, 5);
        c.fault("off (10000);", 2, 5);
        c.fault("off min(1,10000);", 2, 10);
        c.fault("off 9999 * 9999 + 10000", 2, 18);
        StringBuilder digits = new StringBuilder();
        while (digits.length() < 295) {
            digits.append('0');
        }
        sound("off " + digits + ";");
        c.fault("off 1" + digits.substring(1) + ";", 2, 4);
    }

    private static void namesOfClauses() {
        for (String clause : CLAUSES) {
            boolean law = clause.equals("loss") || clause.equals("off");
            int at = clause.length() + 1;
            for (String name : OF_LAW) {
                c.fault(clause + " " + name + ";", law ? 0 : 5, law ? -1 : at);
                c.fault(clause + " -" + name + ";", law ? 0 : 5, law ? -1 : at + 1);
            }
            for (String name : OF_WAY) {
                c.fault(clause + " " + name + ";", law ? 5 : 0, law ? at : -1);
                c.fault(clause + " max(1," + name + ");", law ? 5 : 0, law ? at + 6 : -1);
            }
            // Each CLAUSE has its own, whichever stand ahead of it.
            c.fault("off 1; loss 1; " + (law ? "on" : "stake") + " speed;", 5, law ? 18 : 21);
            c.fault("stake 1; on 1; " + (law ? "loss" : "off") + " won;", 5, law ? 20 : 19);
        }
    }

    private static void leastOfOneToken() {
        // That it can't stand there is ahead of what else it is.
        c.fault("off 1 10000;", 1, 6);
        c.fault("10000", 1, 0);
        c.fault("off 1; 10000", 1, 7);
        c.fault("off 1 purse;", 1, 6);
        c.fault("off min purse;", 1, 8);
        c.fault("off off;", 1, 4);
        c.fault("off 1; on on;", 1, 10);
        c.fault("off 1; on off;", 1, 10);
        c.fault("off 1 off;", 1, 6);
        c.fault("off ((((((((1(1;", 1, 13);
        c.fault("off ((((((((speed(1;", 1, 17);
        c.fault("off ((((((((min 1;", 1, 16);
        c.fault("off ((((((((+1;", 1, 12);
    }

    private static void firstOfTokens() {
        c.fault("off 10000 purse", 2, 4);
        c.fault("off purse 10000", 5, 4);
        c.fault("off foo; off 1;", 1, 4);
        c.fault("off 1; off 10000;", 4, 7);
        c.fault("off 10000; off 1;", 2, 4);
        c.fault("off ((((((((10000", 2, 12);
        c.fault("off ((((((((purse", 5, 12);
        c.fault("off (((((((((10000", 3, 12);
        c.fault("off ((((((((-purse", 3, 12);
        c.fault("off purse + -- (", 5, 4);
        c.fault("on speed", 5, 3);
        c.fault("on 1; stake 1; off purse; on", 5, 19);
    }

    private static String many(String part, int times) {
        StringBuilder b = new StringBuilder();
        for (int i = 0; i < times; i++) {
            b.append(part);
        }
        return b.toString();
    }

    /** Eight that are open around one another are none too many, of whichever kinds. */
    private static void opens() {
        sound("on " + many("(", 8) + "1" + many(")", 8) + ";");
        c.fault("on " + many("(", 9) + "1" + many(")", 9) + ";", 3, 11);
        sound("on " + many("-", 8) + "1;");
        c.fault("on " + many("-", 9) + "1;", 3, 11);
        sound("on " + many("min(", 8) + "1" + many(",2)", 8) + ";");
        c.fault("on " + many("min(", 9) + "1" + many(",2)", 9) + ";", 3, 3 + 8 * 4 + 3);
        sound("on " + many("max(1,", 8) + "1" + many(")", 8) + ";");
        c.fault("on " + many("max(1,", 9) + "1" + many(")", 9) + ";", 3, 3 + 8 * 6 + 3);
        c.fault("on " + many("max(1,", 8) + "max \n (1,1)" + many(")", 8) + ";", 3, 3 + 8 * 6 + 6);
        sound("on " + many("-(", 4) + "1" + many(")", 4) + ";");
        c.fault("on " + many("-(", 4) + "-1" + many(")", 4) + ";", 3, 11);
        c.fault("on " + many("-(", 4) + "(1)" + many(")", 4) + ";", 3, 11);
        c.fault("on " + many("-(", 4) + "min(1,2)" + many(")", 4) + ";", 3, 14);
        sound("on -min(-(min(-(1),2)),3);");
        sound("on -min(-(min(-(-1),2)),3);");
        c.fault("on -min(-(min(-(-(1)),2)),3);", 3, 17);
        c.fault("on -min(-(min(-(--1),2)),3);", 3, 17);
        sound("on -min(-(min(-(-1),2)),------3);");
        c.fault("on -min(-(min(-(-1),2)),-------3);", 3, 30);
    }

    /** What is closed, or has what it is of behind it, is open no more. */
    private static void opensAtOnce() {
        sound("on " + many("(1)+", 20) + "1;");
        sound("on " + many("-1-", 20) + "1;");
        sound("on " + many("-1*", 20) + "-1;");
        sound("on " + many("(", 8) + "1" + many(")", 8) + "+" + many("(", 8) + "1" + many(")", 8) + ";");
        sound("on " + many("-", 8) + "1+" + many("-", 8) + "1;");
        sound("on " + many("-", 8) + "1*" + many("-", 8) + "1;");
        sound("on min(" + many("-", 7) + "1," + many("-", 7) + "1);");
        c.fault("on min(" + many("-", 7) + "1," + many("-", 8) + "1);", 3, 23);
        c.fault("on min(" + many("-", 8) + "1," + many("-", 7) + "1);", 3, 14);
        sound("on -(1)+" + many("(", 8) + "1" + many(")", 8) + ";");
        sound("on (-1+" + many("(", 7) + "1" + many(")", 7) + ");");
        c.fault("on (-1+" + many("(", 8) + "1" + many(")", 8) + ");", 3, 14);
        // Between two values - opens nothing.
        sound("on " + many("(", 8) + "1-1-1-1-1-1-1-1-1-1" + many(")", 8) + ";");
        sound("stake " + many("(", 8) + "1" + many(")", 8) + ";on " + many("-", 8) + "1;");
        sound("on (" + many("(", 7) + "1" + many(")", 7) + "-" + many("(", 7) + "1" + many(")", 7) + ");");
    }

    private static void latest() {
        LeaningWheel x = new LeaningWheel(5);
        Checks.read(x, "off 1; on 10000;");
        c.due("10: FAULT", x.fault(0), 2);
        c.due("10: place", x.fault(1), 10);
        Checks.read(x, "off 1; off 1;");
        c.due("10: of the latest, FAULT", x.fault(0), 4);
        c.due("10: of the latest, place", x.fault(1), 7);
        c.due("9: a sound one", Checks.read(x, "off 1;"), 0);
        c.due("10: without FAULT", x.fault(0), 0);
        c.due("10: without place", x.fault(1), -1);
        c.due("9: faulty again", Checks.read(x, "x"), -1);
        c.due("10: FAULT again", x.fault(0), 1);
        c.due("10: place again", x.fault(1), 0);
        // What a faulty text had ahead of its FAULT is in no TEXT.
        c.due("9: the next number", Checks.read(x, "off 7; on 2; stake"), -1);
        c.due("9: the next number again", Checks.read(x, "stake 2;"), 1);
        x.law(1);
        c.due("12: without off", x.drop(0, 0, 9, 0, 0, 0), 1);
        x.write(0, 0, 0, 2);
        c.due("28: without on", x.run(1, 0, 0, 10, 0), 10);
    }
}
