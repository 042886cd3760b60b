/** Promises 16 (count) and 17 (undo), and what is a change. */
public final class StateTest {
    private static final Due due = new Due();
    private static final int INVALID = -1000001;
    private static final int IMPOSSIBLE = -1000002;
    private static final int MISSING = -1000004;

    public static void main(String[] args) {
        counts();
        countWrong();
        changes();
        questionsAreNoChanges();
        oldStatesAreDropped();
        undoRestoresAll();
        due.end();
    }

    private static void countsAre(String when, BellWords x, int... counts) {
        for (int what = 0; what < counts.length; what++) {
            due.is(when + ": count(" + what + ")", x.count(what), counts[what]);
        }
    }

    private static void counts() {
        BellWords x = Due.rung("bcd/kk");
        countsAre("two right ones", x, 20, 2, 5, 0, 0, 0, 0, 2, 0, x.strokeOf(19, 0), 4, 0);
        x.pause();
        x.strike(9000);
        x.strike(9005);
        x.strike(9019);
        Due.type(x, "ab;");
        // 9005 is left out by a doubtful gap; 9019 has a gap of 19, doubtful, with one placed.
        countsAre("and another one", x, 23, 3, 6, 1, 1, 1, 2, 2, 1, 9019, 4, 3);
        due.is("count(20)", x.count(20), 8);
        due.is("count(21)", x.count(21), 1);
        x.set(0, 13);
        x.set(1, 2);
        due.is("count(20)", x.count(20), 13);
        due.is("count(21)", x.count(21), 2);
        BellWords y = Due.struck(40, 41);
        due.is("the last stroke, though it is left out", y.count(9), 41);
    }

    private static void countWrong() {
        BellWords x = new BellWords();
        for (int what : new int[] {-1, 12, 13, 19, 22, 23, Integer.MIN_VALUE, Integer.MAX_VALUE}) {
            due.is("count(" + what + ")", x.count(what), INVALID);
        }
        due.is("count(9) without strokes", x.count(9), MISSING);
    }

    private static void changes() {
        BellWords x = new BellWords();
        x.ring(0);
        due.is("ring is a change", x.count(10), 1);
        x.pause();
        due.is("pause is a change", x.count(10), 2);
        x.strike(500);
        due.is("strike is a change", x.count(10), 3);
        x.mute(0);
        due.is("mute is a change", x.count(10), 4);
        BellWords y = Due.struck(0);
        y.shift(0, 5);
        due.is("shift is a change", y.count(10), 2);
        y.swap(0, 1);
        due.is("swap is a change", y.count(10), 3);
        y.set(0, 8);
        due.is("set is a change, also to what it is", y.count(10), 4);
        BellWords z = new BellWords();
        z.play();
        due.is("play is a change, also without orders", z.count(10), 1);
        z.set(1, 1);
        due.is("set is a change", z.count(10), 2);
    }

    private static void questionsAreNoChanges() {
        BellWords x = Due.rung("bg");
        x.undo();
        x.undo();
        Due.ring(x, "bg");
        Due.type(x, "=b;");
        x.strokeOf(0, 0);
        x.messageOf(0, 4);
        x.letterOf(0, 0, 4);
        x.correction(0, 0, 0);
        x.vote(0, 0);
        x.read(0);
        x.tableOf(0);
        x.fault(0);
        x.clearText();
        due.is("count(10)", x.count(10), 2);
        x.strike(0);
        x.ring(-1);
        x.set(0, 0);
        x.swap(1, 1);
        x.mute(99);
        x.shift(0, 0);
        Due.type(x, "?");
        x.play();
        due.is("errors are none either", x.count(10), 2);
        due.is("strokes", x.count(0), 7);
    }

    private static void oldStatesAreDropped() {
        BellWords x = new BellWords();
        for (int i = 0; i < 7; i++) {
            x.strike(100 * i);
            due.is("states", x.count(10), Math.min(i + 1, 4));
        }
        for (int left = 3; left >= 0; left--) {
            due.is("undo()", x.undo(), left);
            due.is("strokes", x.count(0), 3 + left);
            due.is("states", x.count(10), left);
        }
        due.is("undo() of none", x.undo(), IMPOSSIBLE);
        due.is("strokes stay", x.count(0), 3);
        x.strike(1);
        x.strike(2);
        due.is("undo()", x.undo(), 1);
        due.is("strokes", x.count(0), 4);
        x.strike(3);
        x.strike(4);
        x.strike(5);
        due.is("states", x.count(10), 4);
        x.strike(6);
        due.is("states", x.count(10), 4);
        for (int left = 3; left >= 0; left--) {
            due.is("undo()", x.undo(), left);
            due.is("strokes", x.count(0), 4 + left);
        }
        due.is("undo() of none", x.undo(), IMPOSSIBLE);
    }

    private static void undoRestoresAll() {
        BellWords x = Due.rung("bc");
        x.pause();
        Due.type(x, "-0;-0;+77;=yy;");
        x.set(0, 8);
        due.is("play()", x.play(), 26);
        x.set(0, 20);
        x.set(1, 3);
        x.swap(1, 2);
        due.is("undo()", x.undo(), 3);
        due.is("table", x.tableOf(1), 12);
        due.is("tolerance", x.count(21), 3);
        due.is("undo()", x.undo(), 2);
        due.is("tolerance", x.count(21), 1);
        due.is("beat", x.count(20), 20);
        due.is("undo()", x.undo(), 1);
        due.is("beat", x.count(20), 8);
        due.is("strokes", x.count(0), 26);
        due.is("pause", x.count(8), 0);
        due.is("undo()", x.undo(), 0);
        due.is("strokes", x.count(0), 7);
        due.is("pause", x.count(8), 1);
        due.is("times", x.strokeOf(0, 0), 0);
        due.is("times", x.strokeOf(6, 0), 120);
        due.is("letters", x.letterOf(0, 1, 0), 2);
        due.is("the text stays", x.count(11), 14);
        x.type('!');
        x.mute(0);
        x.clearText();
        due.is("undo()", x.undo(), 0);
        due.is("the text is not restored", x.count(11), 0);
    }
}
