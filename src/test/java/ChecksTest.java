/** Promises 12 (correction), 13 (vote) and 14 (read). */
public final class ChecksTest {
    private static final Due due = new Due();
    private static final int INVALID = -1000001;
    private static final int MISSING = -1000004;

    public static void main(String[] args) {
        corrections();
        correctionsOfGroupsOfSix();
        correctionsWithAnUnreadableLetter();
        noCorrections();
        correctionWrong();
        votes();
        votesThatSkipUnreadableLetters();
        voteWrong();
        readRight();
        readCorrected();
        readVotes();
        readWrong();
        due.end();
    }

    private static void correctionIs(BellWords x, int message, int index, int... parts) {
        for (int what = 0; what < 4; what++) {
            due.is("correction(" + message + ", " + index + ", " + what + ")", x.correction(message, index, what),
                    parts[what]);
        }
    }

    private static void corrections() {
        // b and g are a row apart: right as g g and as b b.
        BellWords x = Due.rung("bg");
        due.is("b g", x.messageOf(0, 4), 2);
        correctionIs(x, 0, 0, 0, 0, 1, 6);
        correctionIs(x, 0, 1, 1, 0, 0, 1);
        due.is("no third one", x.correction(0, 2, 0), MISSING);
        // l and m are a column apart: right as l l and as m m.
        BellWords y = Due.rung("ml");
        due.is("m l", y.messageOf(0, 4), 2);
        correctionIs(y, 0, 0, 0, 1, 0, 11);
        correctionIs(y, 0, 1, 1, 1, 1, 12);
        // 7 + 7 = 14, but 13 is there: a column less in one of the first two, or one more in the check.
        BellWords z = Due.rung("hhn");
        due.is("h h n", z.messageOf(0, 4), 3);
        correctionIs(z, 0, 0, 0, 1, 0, 6);
        correctionIs(z, 0, 1, 1, 1, 0, 6);
        correctionIs(z, 0, 2, 2, 1, 1, 14);
        // 0 + 7, but 12 or 2 is there: a row more or less in one of the three letters.
        BellWords u = Due.rung("ahm/ahc");
        correctionIs(u, 0, 0, 0, 0, 1, 5);
        correctionIs(u, 0, 1, 1, 0, 1, 12);
        correctionIs(u, 0, 2, 2, 0, 0, 7);
        due.is("a h m", u.messageOf(0, 4), 3);
        correctionIs(u, 1, 0, 1, 0, 0, 2);
        correctionIs(u, 1, 1, 2, 0, 1, 7);
        due.is("a h c", u.messageOf(1, 4), 2);
    }

    private static void correctionsOfGroupsOfSix() {
        // Counts of 6 and 1, and then the letter 20 (5 and 1): one stroke less makes it right.
        BellWords x = Due.struck(0, 8, 16, 24, 32, 40, 64);
        x.ring(20);
        due.is("unreadable", x.messageOf(0, 1), 1);
        due.is("6 and 1", x.messageOf(0, 4), 1);
        correctionIs(x, 0, 0, 0, 0, 0, 20);
        due.is("corrected", x.read(-1), 1);
        due.is("corrected 0", x.read(0), 20);
        due.is("corrected 1", x.read(1), 20);
        due.is("corrected 2", x.read(2), MISSING);
        // Counts of 6 and 6: no one stroke makes it a letter.
        BellWords y = Due.struck(0, 8, 16, 24, 32, 40, 64, 72, 80, 88, 96, 104);
        y.ring(24);
        due.is("6 and 6", y.messageOf(0, 4), 0);
        // Counts of 7 and 1: neither.
        BellWords z = Due.struck(0, 8, 16, 24, 32, 40, 48, 72);
        z.ring(20);
        due.is("7 and 1", z.messageOf(0, 4), 0);
        // The check itself has counts of 5 and 6.
        BellWords u = Due.rung("y");
        for (int time : new int[] {136, 144, 152, 160, 168, 192, 200, 208, 216, 224, 232}) {
            u.strike(time);
        }
        due.is("two letters", u.messageOf(0, 0), 2);
        due.is("5 and 6 as the check", u.messageOf(0, 4), 1);
        correctionIs(u, 0, 0, 1, 1, 0, 24);
    }

    private static void correctionsWithAnUnreadableLetter() {
        // A letter of one group stands in the message: no step elsewhere makes it right.
        BellWords x = Due.rung("bb");
        x.strike(x.count(9) + 48);
        due.is("letters", x.messageOf(0, 0), 3);
        due.is("unreadable", x.messageOf(0, 1), 1);
        due.is("no correction fits", x.messageOf(0, 4), 0);
        BellWords y = Due.struck(0, 8, 16, 24, 32, 40, 64);
        y.strike(112);
        due.is("two unreadable ones", y.messageOf(0, 1), 2);
        due.is("no correction fits", y.messageOf(0, 4), 0);
        // b, a letter of one group, g: b g alone would have two corrections.
        BellWords z = Due.rung("b");
        z.strike(z.count(9) + 48);
        z.ring(6);
        due.is("letters", z.messageOf(0, 0), 3);
        due.is("no correction fits", z.messageOf(0, 4), 0);
        due.is("none at all", z.correction(0, 0, 0), MISSING);
        // Counts of 6 and 1, a letter of one group, the letter 20: without the second one, one would fit.
        BellWords u = Due.struck(0, 8, 16, 24, 32, 40, 64);
        u.strike(112);
        u.ring(20);
        due.is("unreadable", u.messageOf(0, 1), 2);
        due.is("no correction fits", u.messageOf(0, 4), 0);
    }

    private static void noCorrections() {
        due.is("one letter", Due.rung("a").messageOf(0, 4), 0);
        due.is("one letter", Due.rung("a").correction(0, 0, 0), MISSING);
        due.is("a right message", Due.rung("bcd").messageOf(0, 4), 0);
        due.is("a wrong one without a fitting step", Due.rung("ay").messageOf(0, 4), 0);
        // 24 + 1 = 0 by the modulus: y b a is right, and y b b has the correction of its check.
        BellWords x = Due.rung("ybb");
        correctionIs(x, 0, 0, 1, 1, 1, 2);
        correctionIs(x, 0, 1, 2, 1, 0, 0);
        due.is("y b b", x.messageOf(0, 4), 2);
        x.swap(0, 9);
        due.is("by the table as it is now", x.messageOf(0, 4), 1);
        correctionIs(x, 0, 0, 1, 1, 1, 2);
    }

    private static void correctionWrong() {
        BellWords x = Due.rung("bg");
        int[][] wrong = {{1, 0, 0}, {-1, 0, 0}, {0, -1, 0}, {0, 0, -1}, {0, 0, 4}, {0, 9, 4}, {1, 9, 0},
            {0, Integer.MIN_VALUE, 0}, {Integer.MAX_VALUE, 0, 0}, {0, 0, Integer.MAX_VALUE}};
        for (int[] w : wrong) {
            due.is("correction(" + w[0] + ", " + w[1] + ", " + w[2] + ")", x.correction(w[0], w[1], w[2]), INVALID);
        }
        due.is("an index that is great", x.correction(0, Integer.MAX_VALUE, 3), MISSING);
    }

    private static void voteIs(BellWords x, int place, int letter, int most, int doubtful) {
        due.is("vote(" + place + ", 0)", x.vote(place, 0), letter);
        due.is("vote(" + place + ", 1)", x.vote(place, 1), most);
        due.is("vote(" + place + ", 2)", x.vote(place, 2), doubtful);
    }

    private static void votes() {
        BellWords x = Due.rung("dab/cab/dbb/ac");
        voteIs(x, 0, 3, 2, 0);
        voteIs(x, 1, 0, 2, 0);
        voteIs(x, 2, 1, 3, 0);
        due.is("vote(3, 0)", x.vote(3, 0), MISSING);
        BellWords y = Due.rung("xb/bx/x/b");
        voteIs(y, 0, 1, 2, 1);
        voteIs(y, 1, 1, 1, 1);
        BellWords z = Due.rung("d/c/c/d/e/e/a");
        voteIs(z, 0, 2, 2, 1);
        z.swap(2, 4);
        voteIs(z, 0, 2, 2, 1);
        z.swap(0, 4);
        voteIs(z, 0, 0, 2, 1);
        due.is("without strokes", new BellWords().vote(0, 0), MISSING);
    }

    private static void votesThatSkipUnreadableLetters() {
        // The first copy has a letter of one group at the place 0.
        BellWords x = Due.struck(0);
        Due.ring(x, "c/hd");
        voteIs(x, 0, 7, 1, 0);
        voteIs(x, 1, 2, 1, 1);
        BellWords y = Due.struck(0, 100);
        due.is("no readable letter there", y.vote(0, 0), MISSING);
        due.is("no readable letter there", y.vote(0, 2), MISSING);
    }

    private static void voteWrong() {
        BellWords x = Due.rung("a");
        int[][] wrong = {{-1, 0}, {0, 3}, {0, -1}, {-1, 3}, {5, 3}, {Integer.MIN_VALUE, 0}, {0, Integer.MAX_VALUE}};
        for (int[] w : wrong) {
            due.is("vote(" + w[0] + ", " + w[1] + ")", x.vote(w[0], w[1]), INVALID);
        }
        due.is("a place that is great", x.vote(Integer.MAX_VALUE, 0), MISSING);
    }

    private static void readIs(BellWords x, int... parts) {
        for (int place = -1; place < parts.length - 1; place++) {
            due.is("read(" + place + ")", x.read(place), parts[place + 1]);
        }
        due.is("read(" + (parts.length - 1) + ")", x.read(parts.length - 1), MISSING);
    }

    private static void readRight() {
        readIs(Due.rung("bcd"), 0, 1, 2, 3);
        readIs(Due.rung("bce/hyg/kk"), 0, 7, 24, 6);
        // The first message could be corrected, but the second one is right.
        readIs(Due.rung("ay/hb/dd"), 0, 3, 3);
    }

    private static void readCorrected() {
        // Of b g two corrections fit, of a y none, of g h s three.
        BellWords x = Due.rung("bg/ay/ghs");
        due.is("corrections of a y", x.messageOf(1, 4), 0);
        due.is("corrections of g h s", x.messageOf(2, 4), 3);
        due.is("by votes", x.read(-1), 2);
        BellWords y = Due.struck(0, 8, 16, 24, 32, 40, 64);
        Due.ring(y, "u/bg");
        due.is("of the first message", y.messageOf(0, 4), 1);
        due.is("of the second message", y.messageOf(1, 4), 2);
        readIs(y, 1, 20, 20);
        BellWords z = Due.rung("bg");
        for (int time : new int[] {0, 8, 16, 24, 32, 40, 64}) {
            z.strike(z.strokeOf(0, 0) + 900 + time);
        }
        z.ring(20);
        due.is("behind one with two corrections", z.messageOf(1, 4), 1);
        readIs(z, 1, 20, 20);
        Due.ring(z, "/bb");
        readIs(z, 0, 1, 1);
    }

    private static void readVotes() {
        readIs(Due.rung("ay"), 2, 0, 24);
        readIs(Due.rung("ay/ay/by/a"), 2, 0, 24);
        // No copy has a readable letter at 1: what stands behind it is not read.
        BellWords x = Due.rung("d");
        x.strike(x.count(9) + 48);
        x.ring(4);
        due.is("a vote for 2", x.vote(2, 0), 4);
        readIs(x, 2, 3);
        due.is("read(2)", x.read(2), MISSING);
        BellWords y = Due.struck(77);
        readIs(y, 2);
        due.is("read(most)", y.read(Integer.MAX_VALUE), MISSING);
    }

    private static void readWrong() {
        BellWords x = new BellWords();
        due.is("read(-2) without strokes", x.read(-2), INVALID);
        due.is("read(-1) without strokes", x.read(-1), MISSING);
        due.is("read(0) without strokes", x.read(0), MISSING);
        Due.ring(x, "kk");
        due.is("read(-2)", x.read(-2), INVALID);
        due.is("read(least)", x.read(Integer.MIN_VALUE), INVALID);
        due.is("read(most)", x.read(Integer.MAX_VALUE), MISSING);
        x.mute(0);
        due.is("read(-1)", x.read(-1), 2);
    }
}
