/** Promises 9 (strokeOf), 10 (messageOf) and 11 (letterOf). */
public final class ReadingTest {
    private static final Due due = new Due();
    private static final int INVALID = -1000001;
    private static final int MISSING = -1000004;

    public static void main(String[] args) {
        cases();
        doubts();
        gapsOfStrokesThatAreLeftOut();
        placesOfStrokes();
        wrongStrokes();
        messages();
        placedStrokes();
        doubtsOfMessages();
        rightMessages();
        wrongMessages();
        letters();
        lettersWithOneMore();
        wrongLetters();
        due.end();
    }

    /** The first gaps of the cases 1 to 5 for a beat. */
    private static void bounds(int beat, int... first) {
        for (int itsCase = 1; itsCase <= 5; itsCase++) {
            BellWords x = Due.struck(0, first[itsCase - 1] - 1);
            x.set(0, beat);
            due.is("beat " + beat + ", case below", x.strokeOf(1, 2), itsCase - 1);
            x.shift(1, 1);
            due.is("beat " + beat + ", case from " + first[itsCase - 1], x.strokeOf(1, 2), itsCase);
        }
    }

    private static void cases() {
        bounds(8, 6, 12, 20, 36, 64);
        bounds(4, 3, 6, 10, 18, 32);
        bounds(5, 4, 8, 13, 23, 40);
        bounds(7, 6, 11, 18, 32, 56);
        bounds(20, 15, 30, 50, 90, 160);
        BellWords x = Due.struck(0, 9999);
        due.is("the greatest gap", x.strokeOf(1, 1), 9999);
        due.is("its case", x.strokeOf(1, 2), 5);
        due.is("its doubt", x.strokeOf(1, 3), 0);
    }

    private static void doubts() {
        int[] bounds = {6, 12, 20, 36, 64};
        for (int tolerance = 0; tolerance <= 3; tolerance++) {
            for (int gap = 1; gap < 80; gap++) {
                BellWords x = Due.struck(0, gap);
                x.set(1, tolerance);
                int doubtful = 0;
                for (int bound : bounds) {
                    doubtful |= gap - tolerance < bound && bound <= gap + tolerance && tolerance > 0 ? 1 : 0;
                }
                due.is("tolerance " + tolerance + ", doubt of " + gap, x.strokeOf(1, 3), doubtful);
            }
        }
        // 4 beats make gaps that are so near one another that one of 4 is doubtful both ways.
        BellWords x = Due.struck(0, 4);
        x.set(0, 4);
        due.is("beat 4, tolerance 1", x.strokeOf(1, 3), 0);
        x.set(1, 2);
        due.is("beat 4, tolerance 2", x.strokeOf(1, 3), 1);
    }

    private static void gapsOfStrokesThatAreLeftOut() {
        BellWords x = Due.struck(0, 3, 5, 8, 16);
        due.is("gap of the first", x.strokeOf(0, 1), MISSING);
        due.is("case of the first", x.strokeOf(0, 2), MISSING);
        due.is("doubt of the first", x.strokeOf(0, 3), MISSING);
        due.is("gap of 3", x.strokeOf(1, 1), 3);
        due.is("case of 3", x.strokeOf(1, 2), 0);
        due.is("gap of 5", x.strokeOf(2, 1), 5);
        due.is("case of 5", x.strokeOf(2, 2), 0);
        due.is("doubt of 5", x.strokeOf(2, 3), 1);
        due.is("gap of 8, past those left out", x.strokeOf(3, 1), 8);
        due.is("case of 8", x.strokeOf(3, 2), 1);
        due.is("gap of 16", x.strokeOf(4, 1), 8);
        due.is("message of one left out", x.strokeOf(1, 4), MISSING);
        due.is("letter of one left out", x.strokeOf(1, 5), MISSING);
        due.is("group of one left out", x.strokeOf(2, 6), MISSING);
        due.is("strokes left out", x.count(4), 2);
        due.is("the count of the group", x.letterOf(0, 0, 2), 3);
    }

    private static void placesOfStrokes() {
        // Two letters of which the second one has three groups, then a message of one letter.
        BellWords x = Due.struck(10, 18, 42, 90, 114, 130, 154, 218, 242);
        int[][] places = {{0, 0, 0}, {0, 0, 0}, {0, 0, 1}, {0, 1, 0}, {0, 1, 1}, {0, 1, 1}, {0, 1, 2}, {1, 0, 0},
            {1, 0, 1}};
        int[] cases = {MISSING, 1, 3, 4, 3, 2, 3, 5, 3};
        for (int stroke = 0; stroke < places.length; stroke++) {
            due.is("case of " + stroke, x.strokeOf(stroke, 2), cases[stroke]);
            due.is("message of " + stroke, x.strokeOf(stroke, 4), places[stroke][0]);
            due.is("letter of " + stroke, x.strokeOf(stroke, 5), places[stroke][1]);
            due.is("group of " + stroke, x.strokeOf(stroke, 6), places[stroke][2]);
        }
        due.is("groups of the letter with three", x.letterOf(0, 1, 1), 3);
        due.is("it is unreadable", x.letterOf(0, 1, 0), MISSING);
        due.is("its first count", x.letterOf(0, 1, 2), 1);
        due.is("its second count, with one placed", x.letterOf(0, 1, 3), 3);
        due.is("with one more of three groups", x.letterOf(0, 1, 4), MISSING);
    }

    private static void wrongStrokes() {
        BellWords x = Due.struck(10, 20);
        int[][] wrong = {{2, 0}, {-1, 0}, {0, 7}, {1, -1}, {2, 1}, {0, 8}, {Integer.MAX_VALUE, 0},
            {0, Integer.MIN_VALUE}, {1, Integer.MAX_VALUE}};
        for (int[] w : wrong) {
            due.is("strokeOf(" + w[0] + ", " + w[1] + ")", x.strokeOf(w[0], w[1]), INVALID);
        }
    }

    private static void messages() {
        BellWords x = Due.rung("bcd/hyg");
        due.is("messages", x.count(1), 2);
        due.is("letters", x.messageOf(0, 0), 3);
        due.is("unreadable", x.messageOf(0, 1), 0);
        due.is("right: 1 + 2 = 3", x.messageOf(0, 2), 1);
        due.is("first stroke", x.messageOf(0, 5), 0);
        due.is("first stroke of the second one", x.messageOf(1, 5), 12);
        due.is("right: 7 + 24 = 31", x.messageOf(1, 2), 1);
        // The first stroke of the group of two goes, that of the group of three in the middle.
        x.mute(17 + 1);
        due.is("placed in the second one", x.messageOf(1, 3), 1);
        due.is("placed in the first one", x.messageOf(0, 3), 0);
        due.is("still right", x.messageOf(1, 2), 1);
        x.strike(x.strokeOf(12, 0) - 40);
        due.is("a stroke between the messages joins them", x.count(1), 1);
        due.is("letters then", x.messageOf(0, 0), 7);
        due.is("unreadable then", x.messageOf(0, 1), 1);
        due.is("not right then", x.messageOf(0, 2), 0);
        due.is("count(3)", x.count(3), 1);
        due.is("count(5)", x.count(5), 1);
    }

    private static void placedStrokes() {
        BellWords x = Due.struck(0, 16, 32, 120, 139);
        due.is("placed in the first message", x.messageOf(0, 3), 2);
        due.is("placed in the second message", x.messageOf(1, 3), 1);
        x.strike(400);
        x.shift(5, 1);
        due.is("as before, behind other changes", x.messageOf(0, 3), 2);
        due.is("as before, behind other changes", x.messageOf(1, 3), 1);
        due.is("none in the third message", x.messageOf(2, 3), 0);
        due.is("count(5)", x.count(5), 3);
        x.mute(1);
        due.is("a gap of 32 has none", x.messageOf(0, 3), 0);
    }

    private static void doubtsOfMessages() {
        // Gaps of 64 and 5 (left out) and 35, all doubtful, for the message that begins at 164.
        BellWords x = Due.struck(100, 164, 169, 199);
        due.is("count(6)", x.count(6), 3);
        due.is("doubts of the first message", x.messageOf(0, 6), 0);
        due.is("doubts of the second message", x.messageOf(1, 6), 3);
        // Gaps of 6, 5 (left out) and 64: the first two are of the first message.
        BellWords y = Due.struck(0, 6, 11, 70);
        due.is("doubts of the first message", y.messageOf(0, 6), 2);
        due.is("doubts of the second message", y.messageOf(1, 6), 1);
        due.is("left out", y.count(4), 1);
        due.is("first stroke of the second message", y.messageOf(1, 5), 3);
    }

    private static void rightMessages() {
        due.is("one letter", Due.rung("a").messageOf(0, 2), 0);
        due.is("two letters", Due.rung("kk").messageOf(0, 2), 1);
        due.is("two other letters", Due.rung("kl").messageOf(0, 2), 0);
        due.is("24 + 24 + 2 = 0", Due.rung("yyca").messageOf(0, 2), 1);
        due.is("24 + 24 + 3 = 1", Due.rung("yyda").messageOf(0, 2), 0);
        BellWords x = Due.rung("aab");
        due.is("not right", x.messageOf(0, 2), 0);
        x.swap(0, 1);
        due.is("by the table as it is now: 1 + 1 = 0", x.messageOf(0, 2), 0);
        x.swap(0, 2);
        due.is("1 + 1 = 2", x.messageOf(0, 2), 1);
        x.swap(2, 1);
        due.is("2 + 2 = 1", x.messageOf(0, 2), 0);
        BellWords y = Due.rung("bb");
        due.is("as it is", y.messageOf(0, 2), 1);
        y.strike(y.count(9) + 48);
        due.is("an unreadable letter in a message", y.messageOf(0, 1), 1);
        due.is("it is not right", y.messageOf(0, 2), 0);
    }

    private static void wrongMessages() {
        BellWords x = Due.rung("ab/c");
        int[][] wrong = {{2, 0}, {-1, 0}, {0, 7}, {0, -1}, {1, 100}, {2, 9}, {Integer.MAX_VALUE, 0},
            {Integer.MIN_VALUE, 6}, {0, Integer.MIN_VALUE}};
        for (int[] w : wrong) {
            due.is("messageOf(" + w[0] + ", " + w[1] + ")", x.messageOf(w[0], w[1]), INVALID);
        }
        due.is("messageOf(1, 0)", x.messageOf(1, 0), 1);
    }

    private static void letters() {
        BellWords x = Due.rung("hm/x");
        due.is("letter 0", x.letterOf(0, 0, 0), 7);
        due.is("letter 1", x.letterOf(0, 1, 0), 12);
        due.is("letter 0 of the second message", x.letterOf(1, 0, 0), 23);
        due.is("groups", x.letterOf(1, 0, 1), 2);
        due.is("first count", x.letterOf(1, 0, 2), 5);
        due.is("second count", x.letterOf(1, 0, 3), 4);
        BellWords y = Due.struck(0);
        due.is("one group: letter", y.letterOf(0, 0, 0), MISSING);
        due.is("one group: groups", y.letterOf(0, 0, 1), 1);
        due.is("one group: count", y.letterOf(0, 0, 2), 1);
        due.is("one group: second count", y.letterOf(0, 0, 3), MISSING);
        due.is("one group: one more", y.letterOf(0, 0, 4), MISSING);
        BellWords z = Due.struck(0, 16, 32, 56);
        due.is("placed strokes count", z.letterOf(0, 0, 2), 5);
        due.is("row 5, column 1", z.letterOf(0, 0, 0), 20);
        z.strike(40);
        due.is("24 becomes 8 and 16: no gap between groups", z.letterOf(0, 0, 1), 1);
        due.is("5 strokes and 3 placed", z.letterOf(0, 0, 2), 8);
    }

    private static void lettersWithOneMore() {
        due.is("row 1, column 1", Due.rung("a").letterOf(0, 0, 4), 1 << 5 | 1 << 1);
        due.is("row 5, column 5", Due.rung("y").letterOf(0, 0, 4), 0);
        due.is("row 5, column 1", Due.rung("u").letterOf(0, 0, 4), 1 << 21);
        due.is("row 1, column 5", Due.rung("e").letterOf(0, 0, 4), 1 << 9);
        due.is("row 4, column 4", Due.rung("s").letterOf(0, 0, 4), 1 << 23 | 1 << 19);
        BellWords x = Due.rung("a");
        x.swap(5, 24);
        due.is("by the table as it is now", x.letterOf(0, 0, 4), 1 << 24 | 1 << 1);
        // 6 strokes, then 2: unreadable, and still so with one more.
        BellWords y = Due.struck(0, 8, 16, 24, 32, 40, 64, 72);
        due.is("6 and 2", y.letterOf(0, 0, 0), MISSING);
        due.is("6", y.letterOf(0, 0, 2), 6);
        due.is("2", y.letterOf(0, 0, 3), 2);
        due.is("none with one more", y.letterOf(0, 0, 4), 0);
    }

    private static void wrongLetters() {
        BellWords x = Due.rung("ab/c");
        int[][] wrong = {{0, 2, 0}, {1, 1, 0}, {2, 0, 0}, {-1, 0, 0}, {0, -1, 0}, {0, 0, 5}, {0, 0, -1},
            {0, Integer.MAX_VALUE, 0}, {Integer.MIN_VALUE, 0, 0}, {0, 0, Integer.MAX_VALUE}, {2, 0, 4}};
        for (int[] w : wrong) {
            due.is("letterOf(" + w[0] + ", " + w[1] + ", " + w[2] + ")", x.letterOf(w[0], w[1], w[2]), INVALID);
        }
    }
}
