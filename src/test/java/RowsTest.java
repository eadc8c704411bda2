/** Rows that are empty, rows that are full, and the one that is one short of it. */
public final class RowsTest {
    private static final Checks c = new Checks();
    private static final int NONE = -1;
    private static final int SPACES = 0x20202020;

    public static void main(String[] args) {
        emptyTape();
        noTexts();
        noStarts();
        noSpins();
        dozedSpinsAlone();
        noBets();
        noneSeen();
        noImage();
        fullTape();
        sixTexts();
        longText();
        faultyTexts();
        sixStarts();
        evenings();
        sixtyBets();
        twentySeen();
        allFull();
        roomAgain();
        sixtyFalls();
        sixtyDistances();
        c.close();
    }

    private static void emptyTape() {
        Twin fresh = new Twin(5, States::fresh);
        LeaningWheel x = fresh.made();
        c.due("36: bytes of a new tape", x.about(6), 0);
        c.due("8: end 0 of the empty tape", x.end(0), 0);
        fresh.refused(c, "8", NONE, "end", 1);
        c.due("10: ahead of any text", x.fault(0), NONE);
        c.due("10: ahead of any text, its place", x.fault(1), NONE);
        c.due("9: the empty tape is a TEXT", x.text(), 0);
        c.due("10: without a FAULT", x.fault(0), 0);
        c.due("10: place without a FAULT", x.fault(1), NONE);
        c.due("11: the empty TEXT as THE LAW", x.law(0), true);
        c.due("12: without loss 1, without off 8", x.drop(0, 0, 20, 0, 0, 0), 12);
        x.write(0, 0, 0, 3);
        x.write(0, 0, 0, 3);
        x.write(0, 0, 0, 4);
        // Nothing is staked on the first spin (most is -1), 1 on the next two.
        c.due("28: without stake 1, without on most", x.run(0, 0, 0, 100, 0), 100 + 35 - 1);
        c.due("28: the least of it", x.run(0, 0, 0, 100, 1), 100);
        c.due("28: won", x.run(0, 0, 0, 100, 2), 1);
    }

    private static void noTexts() {
        Twin fresh = new Twin(5, States::fresh);
        LeaningWheel x = fresh.made();
        c.due("36: THE LAW at first", x.about(2), NONE);
        c.due("11: none, at first", x.law(NONE), true);
        fresh.refused(c, "11", 0, "law", 0);
        fresh.refused(c, "28", NONE, "run", 0, 0, 0, 10, 0);
        c.due("12: THE LAW at first as without loss and off", x.drop(0, 0, 9, 0, 0, 0), 1);
        c.due("12: off at 8", x.drop(0, 0, 8, 0, 0, 0), 0);
    }

    private static void noStarts() {
        LeaningWheel x = new LeaningWheel(5);
        for (int hand = 0; hand < 4; hand++) {
            c.due("36: STARTS at first", x.about(10 + hand), 0);
            c.due("15: the lower without STARTS", x.odds(3, hand, NONE), 0);
            c.due("15: the upper without STARTS", x.odds(3, hand, 4), 0);
        }
    }

    /** What asks for spins, in an evening (and by a hand) that has none but dozed ones. */
    private static void withoutSpins(String how, LeaningWheel x) {
        for (int evening = 0; evening < 4; evening++) {
            for (int table = 0; table < 3; table++) {
                c.due("18: no spins there" + how, x.which(evening, table), NONE);
            }
            c.due("18: SURE of none in the evening" + how, x.which(evening, NONE), NONE);
            c.due("18: 1 way without spins" + how, x.which(evening, -2), 1);
        }
        for (int i = 0; i < 4; i++) {
            c.due("19: FALLS without spins" + how, x.falls(i, NONE), 0);
            c.due("19: FALLS in a POCKET without spins" + how, x.falls(i, 4), 0);
            c.due("20: NINE without spins" + how, x.nine(i, 3, 0), 0);
            c.due("20: AMONG without spins" + how, x.nine(i, 3, 1), NONE);
            c.due("20: of like ones the lowest, without spins" + how, x.nine(i, 3, 12), 2);
            for (int what = 0; what < 4; what++) {
                c.due("25: without distances" + how, x.habit(i, 1, what), NONE);
            }
        }
        Checks.read(x, "stake 5; on 1;");
        c.due("28: no spins" + how, x.run(0, 3, 2, 77, 0), 77);
        c.due("28: the least of no spins" + how, x.run(0, 3, 2, 77, 1), 77);
        c.due("28: won of no spins" + how, x.run(0, 3, 2, 77, 2), 0);
    }

    private static void noSpins() {
        Twin fresh = new Twin(5, States::fresh);
        c.due("36: WRITTEN at first", fresh.made().about(3), 0);
        withoutSpins("", fresh.made());
        fresh.refused(c, "29", NONE, "bet", 0, 0, 0);
        LeaningWheel x = fresh.made();
        x.write(0, 0, 2, 3);
        c.due("25: one spin has no distance", x.habit(2, 1, 2), NONE);
        x.write(3, 2, 2, 3);
        c.due("25: two spins have one", x.habit(2, 1, 2), 1);
        c.due("25: of another HAND none", x.habit(1, 1, 2), NONE);
    }

    private static void dozedSpinsAlone() {
        LeaningWheel x = new LeaningWheel(5);
        for (int i = 0; i < 12; i++) {
            x.write(i % 4, i / 4, i % 4, NONE);
        }
        withoutSpins(" but dozed ones", x);
        c.due("29: a dozed spin", x.bet(0, 3, 1), NONE);
        x.scratch(2, 0, 3);
        x.scratch(2, 2, 3);
        c.due("18: no way without spins", x.which(2, -2), 0);
        c.due("18: SURE without a way", x.which(2, NONE), NONE);
        x.write(2, 1, 0, 1);
        c.due("18: no way with a spin elsewhere", x.which(2, -2), 0);
        c.due("18: the WHEEL there without a way", x.which(2, 1), NONE);
        c.due("18: SURE with a spin and without a way", x.which(2, NONE), NONE);
        c.due("19: FALLS without a way", x.falls(0, NONE), 0);
    }

    private static void noBets() {
        LeaningWheel x = new LeaningWheel(5);
        c.due("36: BETS at first", x.about(4), 0);
        for (int bettor = 0; bettor < 4; bettor++) {
            c.due("30: how many without BETS", x.watched(bettor, 0), 0);
            c.due("30: won without BETS", x.watched(bettor, 1), 0);
            c.due("30: ABOVE without BETS", x.watched(bettor, 2), NONE);
        }
        x.write(0, 0, 0, 1);
        c.due("29: the first", x.bet(2, 0, 4), 1);
        c.due("30: ABOVE of 0 of 1", x.watched(2, 2), 1000000);
        c.due("30: ABOVE of another's", x.watched(1, 2), NONE);
    }

    private static void noneSeen() {
        LeaningWheel x = new LeaningWheel(5);
        c.due("36: SEEN at first", x.about(5), 0);
        for (int what = 0; what < 4; what++) {
            c.due("33: none was SEEN", x.shoe(what), -1000);
        }
        x.seen(1, 0);
        c.due("33: one was", x.shoe(0), 0);
        x.back();
        c.due("33: none is any more", x.shoe(0), -1000);
    }

    private static void noImage() {
        LeaningWheel x = new LeaningWheel(5);
        States.some(x);
        LeaningWheel y = new LeaningWheel(5);
        c.due("1: THE IMAGE is the new object", y.back(), 0);
        c.due("1: back to it shows nothing", States.look(y).equals(States.look(new LeaningWheel(5))), true);
        LeaningWheel z = new LeaningWheel(5);
        z.pocket(0, 0, 1, 99);
        z.stud(0, 1, 0, 0, 0, 10);
        z.tilt(0, 99);
        z.late(0, 0, 0, 0, 10);
        z.pays(1);
        z.start(0, 0, 1, 0, 0, 1);
        z.write(0, 0, 0, 0);
        z.scratch(0, 0, 3);
        z.bet(0, 0, 0);
        z.seen(1, 1);
        c.due("1: back to the new object", z.back(), 0);
        c.due("1: all is as at first", States.look(z).equals(States.look(new LeaningWheel(5))), true);
    }

    private static void fullTape() {
        LeaningWheel x = new LeaningWheel(5);
        for (int bytes = 20; bytes <= 300; bytes += 20) {
            c.due("7: how many it has", x.feed(SPACES, SPACES, SPACES, SPACES, SPACES), bytes);
        }
        c.due("7: more than 300", x.feed(0x6f6e2031, 0x3b202020, SPACES, SPACES, SPACES), NONE);
        c.due("7: none come", x.about(6), 300);
        c.due("8: all of it", x.end(300), 300);
        c.due("8: one more than it has", x.end(301), NONE);
        c.due("8: all but 19", x.end(281), 281);
        c.due("7: 301 would be more than 300", x.feed(SPACES, SPACES, SPACES, SPACES, SPACES), NONE);
        c.due("7: none come to 281", x.about(6), 281);
        c.due("8: all but 20", x.end(280), 280);
        c.due("7: 300 are not", x.feed(SPACES, SPACES, SPACES, SPACES, 0x20202021), 300);
        c.due("9: the last byte is read", x.text(), NONE);
        c.due("10: FAULT of the last byte", x.fault(0), 1);
        c.due("10: place of the last byte", x.fault(1), 299);
        c.due("7: there is room again", x.feed(0x6f6e2031, 0x3b202020, SPACES, SPACES, SPACES), 20);
        c.due("9: what was on the tape is gone", x.text(), 0);
    }

    private static void sixTexts() {
        LeaningWheel x = new LeaningWheel(5);
        for (int i = 0; i < 6; i++) {
            c.due("9: its number", Checks.read(x, "off " + (i + 1) + ";"), i);
            c.due("36: TEXTS", x.about(1), i + 1);
            c.due("9: the tape is empty then", x.about(6), 0);
            if (i < 5) {
                c.due("9: a FAULT takes no number", Checks.read(x, "off"), NONE);
                c.due("36: TEXTS without it", x.about(1), i + 1);
            }
        }
        Checks.type(x, "off 10000;");
        c.due("9: there are 6", x.text(), NONE);
        c.due("9: the tape stays", x.about(6), 10);
        c.due("10: of the latest text that was read", x.fault(0), 0);
        c.due("36: 6 TEXTS", x.about(1), 6);
        c.due("11: the last TEXT", x.law(5), true);
        c.due("12: by the last TEXT", x.drop(0, 0, 9, 0, 0, 0), 3);
        c.due("11: the first TEXT", x.law(0), true);
        c.due("12: by the first TEXT", x.drop(0, 0, 9, 0, 0, 0), 8);
        c.due("11: no seventh", x.law(6), false);
        x.back();
        c.due("35: none are left", x.about(1), 0);
        c.due("35: the tape stays there", x.about(6), 10);
        c.due("9: what stayed is read now", x.text(), NONE);
        c.due("10: and has a FAULT", x.fault(0), 2);
        c.due("10: at", x.fault(1), 4);
    }

    /** 300 bytes, of which each is in a TOKEN, in each of the six TEXTS. */
    private static void longText() {
        LeaningWheel x = new LeaningWheel(5);
        StringBuilder sum = new StringBuilder("off 1");
        while (sum.length() < 297) {
            sum.append("+1");
        }
        for (int i = 0; i < 6; i++) {
            int ones = (sum.length() - 3) / 2;
            c.due("9: a TEXT of 300 bytes", Checks.read(x, sum + "+" + i + ";"), i);
            x.law(i);
            c.due("12: by all of it", x.drop(0, 0, 600, 0, 0, 0), 600 - ones - i);
            x.law(0);
            c.due("12: by the first one of 300 bytes", x.drop(0, 0, 600, 0, 0, 0), 600 - ones);
        }
        LeaningWheel y = new LeaningWheel(5);
        c.due("9: 300 bytes without an end", Checks.read(y, sum + "+" + "11"), NONE);
        c.due("10: FAULT of the end", y.fault(0), 1);
        c.due("10: of the end at the length", y.fault(1), 300);
    }

    /** What was refused takes no room of those that come behind it. */
    private static void faultyTexts() {
        LeaningWheel x = new LeaningWheel(5);
        StringBuilder sum = new StringBuilder("off 1");
        while (sum.length() < 299) {
            sum.append("+1");
        }
        for (int i = 0; i < 12; i++) {
            c.due("9: a FAULT at the end", Checks.read(x, sum + ","), NONE);
        }
        int ones = (sum.length() - 3) / 2;
        for (int i = 0; i < 6; i++) {
            c.due("9: a TEXT behind them", Checks.read(x, sum + ";"), i);
        }
        x.law(5);
        c.due("12: by all of the last", x.drop(0, 0, 600, 0, 0, 0), 600 - ones);
        x.law(0);
        c.due("12: by all of the first", x.drop(0, 0, 600, 0, 0, 0), 600 - ones);
    }

    private static void sixStarts() {
        LeaningWheel x = new LeaningWheel(5);
        for (int hand = 3; hand >= 0; hand--) {
            for (int i = 1; i <= 6; i++) {
                c.due("14: how many it has", x.start(hand, 0, 1, 0, 0, i + hand), i);
            }
            c.due("14: there are 6", x.start(hand, 0, 1, 0, 0, 1), NONE);
            c.due("36: STARTS", x.about(10 + hand), 6);
        }
        for (int hand = 0; hand < 4; hand++) {
            c.due("15: 6 of each", x.odds(0, hand, NONE), 1000 * (21 + 6 * hand));
        }
    }

    private static void evenings() {
        LeaningWheel x = new LeaningWheel(5);
        for (int evening = 0; evening < 4; evening++) {
            for (int i = 1; i <= 24; i++) {
                c.due("16: how many are WRITTEN", x.write(evening, i % 3, 0, i % 2 == 0 ? NONE : 2), 24 * evening + i);
            }
            c.due("16: 24 of the evening", x.write(evening, 0, 1, 1), NONE);
            c.due("16: 24 of the evening, dozed", x.write(evening, 0, 1, NONE), NONE);
            c.due("36: WRITTEN", x.about(3), 24 * evening + 24);
        }
        c.due("18: ways of the last evening, all tables", x.which(3, -2), 4 * 3 * 2);
        c.due("29: the last spin", x.bet(0, 94, 2), 1);
        c.due("29: the last, dozed", x.bet(0, 95, 2), NONE);
        c.due("29: behind the last", x.bet(0, 96, 2), NONE);
    }

    private static void sixtyBets() {
        LeaningWheel x = new LeaningWheel(5);
        for (int i = 0; i < 60; i++) {
            x.write(i / 20, 0, 0, 0);
        }
        for (int i = 0; i < 59; i++) {
            c.due("29: how many there are", x.bet(1, i, i < 10 ? 0 : 1), i + 1);
        }
        c.due("30: of 59", x.watched(1, 0), 59);
        c.due("29: the sixtieth", x.bet(1, 59, 0), 60);
        c.due("29: there are 60", x.bet(0, 0, 0), NONE);
        c.due("30: of 60", x.watched(1, 0), 60);
        c.due("30: 11 of 60 won", x.watched(1, 1), 11);
        c.due("30: ABOVE of 60", x.watched(1, 2), x.above(60, 11, 1));
        c.due("36: BETS", x.about(4), 60);
    }

    private static void twentySeen() {
        LeaningWheel x = new LeaningWheel(5);
        for (int i = 1; i <= 19; i++) {
            c.due("32: how many are", x.seen(10 * i, 5 * i), i);
        }
        c.due("33: by 19", x.shoe(0), 0);
        c.due("32: the twentieth", x.seen(200, 99), 20);
        c.due("33: by the twentieth too", x.shoe(0), 1);
        c.due("32: there are 20", x.seen(200, 100), NONE);
        c.due("33: by 20 still", x.shoe(0), 1);
        c.due("36: SEEN", x.about(5), 20);
    }

    /** Where all is full, what is refused for that changes nothing. */
    private static void allFull() {
        for (int n : new int[] {5, 37}) {
            Twin full = new Twin(n, States::full);
            full.refused(c, "7", NONE, "feed", 0x6f6e2031, 0x3b202020, 0, 0, 0);
            full.refused(c, "9", NONE, "text");
            for (int i = 0; i < 4; i++) {
                full.refused(c, "14", NONE, "start", i, 0, 1, 0, 0, 9);
                full.refused(c, "16", NONE, "write", i, 0, 0, 3);
                full.refused(c, "16", NONE, "write", i, 2, 3, NONE);
                full.refused(c, "29", NONE, "bet", i, 90, 1);
            }
            full.refused(c, "32", NONE, "seen", 7, 7);
        }
    }

    private static void roomAgain() {
        LeaningWheel x = new LeaningWheel(5);
        States.full(x);
        c.due("35: back to the first image", x.back(), 0);
        c.due("14: room for a START", x.start(3, 0, 1, 0, 0, 1), 1);
        c.due("16: room to write", x.write(0, 0, 0, 1), 1);
        c.due("29: room for a BET", x.bet(0, 0, 1), 1);
        c.due("32: room to see", x.seen(1, 1), 1);
        c.due("7: none on the tape", x.feed(0, 0, 0, 0, 0), NONE);
        c.due("9: room for a TEXT", x.text(), 0);
        LeaningWheel y = new LeaningWheel(5);
        States.full(y);
        c.due("34: an image of full rows", y.image(), 96);
        c.due("35: back to it", y.back(), 96);
    }

    private static void sixtyFalls() {
        LeaningWheel x = new LeaningWheel(5);
        x.scratch(0, 0, 1);
        x.scratch(1, 1, 1);
        x.scratch(2, 2, 1);
        c.due("20: n of no FALLS", x.nine(1, 1, 1), NONE);
        for (int i = 1; i <= 61; i++) {
            x.write(i / 24, i / 24, 0, i <= 20 ? 4 : i % 4);
            if (i == 1) {
                c.due("20: n of 1", x.nine(1, 1, 1), 1000000);
            }
            if (i == 60) {
                c.due("19: FALLS, 60", x.falls(1, NONE), 60);
                c.due("20: n of 60", x.nine(1, 1, 1), x.among(60, 20, 1));
                c.due("20: of 20 in it", x.nine(1, 1, 0), 20);
            }
        }
        c.due("19: FALLS, 61", x.falls(1, NONE), 61);
        c.due("20: n of 61", x.nine(1, 1, 1), NONE);
        c.due("20: FALLS together of 61", x.nine(1, 1, 0), 20);
        c.due("20: the POCKET of 61", x.nine(1, 1, 10), 4);
    }

    private static void sixtyDistances() {
        LeaningWheel x = new LeaningWheel(10);
        for (int i = 0; i <= 60; i++) {
            x.write(i / 20, i % 3, 3, i % 2 * 4);
        }
        c.due("25: of 60 distances", x.habit(3, 1, 2), 60);
        c.due("25: the first, of 4 and 6", x.habit(3, 1, 0), 4);
        c.due("25: how many", x.habit(3, 1, 1), 30);
        c.due("25: millionths of 60", x.habit(3, 1, 3), 0);
        x.write(3, 0, 3, 4);
        c.due("25: of 61 distances", x.habit(3, 1, 2), 61);
        c.due("25: how many of 61", x.habit(3, 1, 1), 31);
        c.due("25: millionths with more than 60", x.habit(3, 1, 3), NONE);
    }
}
