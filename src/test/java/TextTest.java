/** Promises 7 to 11: the tape, texts, faults and the law; and how a text is worked out. */
public final class TextTest {
    private static final Checks c = new Checks();

    public static void main(String[] args) {
        tape();
        numbersOfTexts();
        soundTexts();
        faultOne();
        otherFaults();
        depths();
        laws();
        sums();
        c.close();
    }

    private static void tape() {
        LeaningWheel x = new LeaningWheel(5);
        c.due("8: end of an empty tape", x.end(1), -1);
        c.due("8: end 0", x.end(0), 0);
        for (int i = 1; i <= 15; i++) {
            c.due("7: feed " + i, x.feed(0, 0, 0, 0, 0), 20 * i);
        }
        c.due("7: beyond 300", x.feed(0, 0, 0, 0, 0), -1);
        c.due("7: none came", x.about(6), 300);
        c.due("8: all", x.end(300), 300);
        c.due("8: one too many", x.end(301), -1);
        c.due("8: below 0", x.end(-1), -1);
        c.due("8: far below 0", x.end(Integer.MIN_VALUE), -1);
        c.due("8: shorter", x.end(281), 281);
        c.due("7: beyond 300 by one", x.feed(0, 0, 0, 0, 0), -1);
        c.due("8: shorter by one", x.end(280), 280);
        c.due("7: 300 just", x.feed(0, 0, 0, 0, 0), 300);
        // The highest byte comes first: "on 1;" in the last int alone, blanks ahead.
        x.end(0);
        x.feed(0x20202020, 0x20202020, 0x20202020, 0x2020206f, 0x6e20313b);
        c.due("7: bytes in their order", x.text(), 0);
        x.feed(0x6f6e2031, 0x3b000000, 0, 0, 0);
        c.due("9: a NUL is no token", x.text(), -1);
        c.due("10: its place", x.fault(1), 5);
    }

    private static void numbersOfTexts() {
        LeaningWheel x = new LeaningWheel(5);
        c.due("10: ahead of any", x.fault(0), -1);
        c.due("10: place ahead of any", x.fault(1), -1);
        c.due("9: an empty text", x.text(), 0);
        c.due("10: no fault", x.fault(0), 0);
        c.due("10: place of none", x.fault(1), -1);
        c.due("10: others", x.fault(2), -1);
        c.due("10: others below", x.fault(-1), -1);
        c.due("9: a faulty one", Checks.read(x, "bad"), -1);
        c.due("10: a fault", x.fault(0), 1);
        c.due("10: place of the fault", x.fault(1), 0);
        c.due("9: the tape is empty then", x.about(6), 0);
        for (int i = 1; i < 6; i++) {
            c.due("9: text " + i, Checks.read(x, "loss " + i + ";"), i);
            c.due("9: the tape is empty", x.about(6), 0);
        }
        c.due("9: a seventh", Checks.read(x, "loss 7"), -1);
        c.due("9: the tape stays", x.about(6), 6);
        c.due("10: it was not read", x.fault(0), 0);
        c.due("9: six", x.about(1), 6);
        for (int i = 1; i < 6; i++) {
            x.law(i);
            c.due("9: text " + i + " is kept", x.drop(0, 0, 9 + 5 * i, 0, 0, 0), (5 * i + i) / i);
        }
    }

    private static void soundTexts() {
        String[] sound = {"", " \n ", "loss 1;", "off 8;", "stake 1;", "on 0;", "loss1;", "loss(1);off 8;stake 1;on 0;",
            "on\nmost\n;\nstake\nmin\n(\n1\n,\n2\n)\n;", "loss speed+point-tenth*tilt/side;",
            "stake purse+spin-last*lost/most+won;", "off 0;", "off 9999;", "off 0000000000000009999;",
            "loss 1 - -1;", "loss 1--1;", "loss max(min(1,2),max(3,(4)));", "on -(1);", "loss min(speed,1)*max(1,tilt);"};
        for (String text : sound) {
            c.fault(text, 0, -1);
        }
        StringBuilder b = new StringBuilder("loss 1");
        while (b.length() < 299) {
            b.append(b.length() == 298 ? " " : b.length() % 2 == 0 ? "+" : "1");
        }
        c.fault(b.append(";").toString(), 0, -1);
    }

    private static void faultOne() {
        c.fault(";", 1, 0);
        c.fault("  1", 1, 2);
        c.fault("speed 1;", 1, 0);
        c.fault("Loss 1;", 1, 0);
        c.fault("losss 1;", 1, 0);
        c.fault("los 1;", 1, 0);
        c.fault("loss", 1, 4);
        c.fault("loss  \n", 1, 7);
        c.fault("loss ;", 1, 5);
        c.fault("loss 1", 1, 6);
        c.fault("loss 1 ", 1, 7);
        c.fault("loss 1 off 2;", 1, 7);
        c.fault("loss 1,2;", 1, 6);
        c.fault("loss 1);", 1, 6);
        c.fault("loss (1;", 1, 7);
        c.fault("loss ();", 1, 6);
        c.fault("loss +1;", 1, 5);
        c.fault("loss 1+;", 1, 7);
        c.fault("loss 1*/2;", 1, 7);
        c.fault("loss 1 2;", 1, 7);
        c.fault("loss speed tilt;", 1, 11);
        c.fault("loss 1 purse;", 1, 7);
        c.fault("loss min;", 1, 8);
        c.fault("loss min 1;", 1, 9);
        c.fault("loss min(1);", 1, 10);
        c.fault("loss min(1,2,3);", 1, 12);
        c.fault("loss min(1,2;", 1, 12);
        c.fault("loss foo;", 1, 5);
        c.fault("loss off;", 1, 5);
        c.fault("loss 1;;", 1, 7);
        c.fault("loss 1;\t", 1, 7);
        c.fault("loss 1\r;", 1, 6);
        c.fault("loss 1.5;", 1, 6);
        c.fault("loss \u00ff;", 1, 5);
        c.fault("loss 1; loss", 4, 8);
        c.fault("loss 1 10000;", 1, 7);
        c.fault("10000", 1, 0);
    }

    private static void otherFaults() {
        c.fault("off 10000;", 2, 4);
        c.fault("off 99999999999999999999999;", 2, 4);
        c.fault("off 1+4294967297;", 2, 6);
        c.fault("off 10000 foo", 2, 4);
        c.fault("on 1; on 2;", 4, 6);
        c.fault("loss 1;off 2;stake 3;on 4;stake 5;", 4, 26);
        c.fault("loss purse;", 5, 5);
        c.fault("off won;", 5, 4);
        c.fault("stake speed;", 5, 6);
        c.fault("on 1+side;", 5, 5);
        for (String name : new String[] {"purse", "spin", "last", "lost", "most", "won"}) {
            c.fault("on 1;stake " + name + ";", 0, -1);
            c.fault("stake 1;on " + name + ";", 0, -1);
            c.fault("loss " + name + ";", 5, 5);
            c.fault("off " + name + ";", 5, 4);
        }
        for (String name : new String[] {"speed", "point", "tenth", "tilt", "side"}) {
            c.fault("off 1;loss " + name + ";", 0, -1);
            c.fault("loss 1;off " + name + ";", 0, -1);
            c.fault("stake " + name + ";", 5, 6);
            c.fault("on " + name + ";", 5, 3);
        }
    }

    private static void depths() {
        c.fault("on ((((((((1))))))));", 0, -1);
        c.fault("on (((((((((1)))))))));", 3, 11);
        c.fault("on --------1;", 0, -1);
        c.fault("on ---------1;", 3, 11);
        c.fault("on -(-(-(-(1))));", 0, -1);
        c.fault("on -(-(-(-(-1))));", 3, 11);
        c.fault("on -(-(-(-((1)))));", 3, 11);
        c.fault("on min(min(min(min(min(min(min(min(1,2),3),4),5),6),7),8),9);", 0, -1);
        c.fault("on ((((((((min(1,2)))))))));", 3, 14);
        c.fault("on ((((((((max 1))))))));", 1, 15);
        c.fault("on ((((((((-1))))))));", 3, 11);
        c.fault("on ((((((((1-1-1-1))))))));", 0, -1);
        // What has closed is no longer open.
        c.fault("on --------1 - --------1 * --------1;", 0, -1);
        c.fault("on (((((((-1 + -1)))))));", 0, -1);
        c.fault("on (((((((-(1) + (1))))))));", 3, 11);
        c.fault("on min(-------1,-------1);", 0, -1);
        c.fault("on min(1,--------1);", 3, 16);
        // A sign that can't stand there is that first.
        c.fault("on ((((((((1(;", 1, 12);
    }

    private static void laws() {
        LeaningWheel x = new LeaningWheel(5);
        c.due("11: no text", x.law(0), false);
        c.due("11: none", x.law(-1), true);
        Checks.read(x, "off 10;");
        c.due("11: a text", x.law(0), true);
        c.due("11: about", x.about(2), 0);
        c.due("11: beyond", x.law(1), false);
        c.due("11: below", x.law(-2), false);
        c.due("11: far", x.law(Integer.MAX_VALUE), false);
        c.due("11: as it was", x.about(2), 0);
        c.due("11: by the law", x.drop(0, 0, 12, 0, 0, 0), 2);
        c.due("11: none again", x.law(-1), true);
        c.due("11: without", x.drop(0, 0, 12, 0, 0, 0), 4);
        c.due("11: about none", x.about(2), -1);
        Checks.read(x, "stake 5;");
        x.law(1);
        c.due("11: a text without loss and off", x.drop(0, 0, 12, 0, 0, 0), 4);
    }

    /** A sum's value (0 .. 9999) is what is staked of a purse of 9999, on a pocket where nothing falls. */
    private static void sum(String sum, int want) {
        LeaningWheel x = new LeaningWheel(37);
        x.write(0, 0, 0, 5);
        c.due("9: reads " + sum, Checks.read(x, "on 0; stake " + sum + ";"), 0);
        c.due("28: " + sum, 9999 - x.run(0, 0, 0, 9999, 0), want);
    }

    private static void sums() {
        sum("1+2*3", 7);
        sum("(1+2)*3", 9);
        sum("10-3-2", 5);
        sum("100/10/5", 2);
        sum("100/(10/5)", 50);
        sum("7/2*2", 6);
        sum("2*7/2", 7);
        sum("0-7/2+10", 7);
        sum("-7/2+10", 7);
        sum("7/-2+10", 7);
        sum("5/0+3", 3);
        sum("5/(2-2)", 0);
        sum("--5", 5);
        sum("2*-3+10", 4);
        sum("-2*3+10", 4);
        sum("min(3,4)+max(3,4)*10", 43);
        sum("min(-3,4)+5", 2);
        sum("9999*9999/1000", 1000);
        sum("-9999*9999/1000+1001", 1);
        sum("9999*9999*9999-9999*100-100", 0);
        sum("9999*9999-9999*100-50", 50);
        sum("9999*100+9999-9999*100-50", 50);
        sum("0-9999*100-9999+9999*100+9999", 9899);
        sum("purse", 9999);
        sum("last+10", 9);
        sum("most+10", 9);
        sum("lost+won+spin", 0);
        sum("0-1", 0);
    }
}
