/** Promises 1 (BellWords()), 2 (set), 3 (swap) and 15 (tableOf). */
public final class SettingsTest {
    private static final Due due = new Due();
    private static final int INVALID = -1000001;

    public static void main(String[] args) {
        newObject();
        setBeat();
        setTolerance();
        setWrong();
        swap();
        swapWrong();
        table();
        due.end();
    }

    private static void newObject() {
        BellWords x = new BellWords();
        for (int what = 0; what <= 8; what++) {
            due.is("new: count(" + what + ")", x.count(what), 0);
        }
        due.is("new: count(9)", x.count(9), -1000004);
        due.is("new: count(10)", x.count(10), 0);
        due.is("new: count(11)", x.count(11), 0);
        due.is("new: count(20)", x.count(20), 8);
        due.is("new: count(21)", x.count(21), 1);
        due.is("new: undo()", x.undo(), -1000002);
        due.is("new: fault(0)", x.fault(0), -1000004);
        due.is("new: strokeOf(0, 0)", x.strokeOf(0, 0), INVALID);
        due.is("new: messageOf(0, 0)", x.messageOf(0, 0), INVALID);
        BellWords other = new BellWords();
        other.ring(3);
        other.set(0, 9);
        other.swap(1, 2);
        Due.type(other, "=a;");
        due.is("beside another: count(0)", x.count(0), 0);
        due.is("beside another: count(11)", x.count(11), 0);
        due.is("beside another: count(20)", x.count(20), 8);
        due.is("beside another: tableOf(1)", x.tableOf(1), 12);
    }

    private static void setBeat() {
        BellWords x = new BellWords();
        due.is("set(0, 4)", x.set(0, 4), 8);
        due.is("set(0, 20)", x.set(0, 20), 4);
        due.is("set(0, 20) again", x.set(0, 20), 20);
        due.is("count(10)", x.count(10), 3);
        due.is("set(0, 10)", x.set(0, 10), 20);
        due.is("count(20)", x.count(20), 10);
        x.ring(0);
        due.is("gap by the beat of 10", x.strokeOf(1, 1), 30);
        due.is("set(0, 20) with strokes", x.set(0, 20), 10);
        due.is("strokes stay where they are", x.strokeOf(1, 0), 30);
        due.is("the case is by the beat as it is now", x.strokeOf(1, 2), 2);
        due.is("set(0, 4) with strokes", x.set(0, 4), 20);
        due.is("case by the beat of 4", x.strokeOf(1, 2), 4);
        due.is("the beat is not the tolerance", x.count(21), 1);
    }

    private static void setTolerance() {
        BellWords x = Due.struck(0, 9);
        due.is("doubt with 1", x.strokeOf(1, 3), 0);
        due.is("set(1, 3)", x.set(1, 3), 1);
        due.is("doubt with 3", x.strokeOf(1, 3), 1);
        due.is("set(1, 0)", x.set(1, 0), 3);
        due.is("count(21)", x.count(21), 0);
        due.is("doubt with 0", x.strokeOf(1, 3), 0);
        due.is("set(1, 2)", x.set(1, 2), 0);
        due.is("doubt with 2", x.strokeOf(1, 3), 0);
        due.is("count(20)", x.count(20), 8);
    }

    private static void setWrong() {
        BellWords x = new BellWords();
        int[][] wrong = {{0, 3}, {0, 21}, {0, -8}, {1, -1}, {1, 4}, {1, 8}, {2, 8}, {-1, 8}, {20, 8},
            {Integer.MIN_VALUE, 4}, {0, Integer.MAX_VALUE}, {1, Integer.MIN_VALUE}};
        for (int[] w : wrong) {
            due.is("set(" + w[0] + ", " + w[1] + ")", x.set(w[0], w[1]), INVALID);
        }
        due.is("no change: count(10)", x.count(10), 0);
        due.is("no change: count(20)", x.count(20), 8);
        due.is("no change: count(21)", x.count(21), 1);
    }

    private static void swap() {
        BellWords x = new BellWords();
        x.ring(1);
        due.is("swap(1, 23)", x.swap(1, 23), 54);
        due.is("tableOf(1)", x.tableOf(1), 54);
        due.is("tableOf(23)", x.tableOf(23), 12);
        due.is("tableOf(2)", x.tableOf(2), 13);
        due.is("what is rung is read by the new table", x.letterOf(0, 0, 0), 23);
        due.is("strokes stay", x.count(0), 3);
        due.is("swap(2, 1)", x.swap(2, 1), 54);
        due.is("tableOf(1) behind a second one", x.tableOf(1), 13);
        due.is("a letter is rung by the new table", x.ring(2), 3);
        due.is("so many strokes", x.count(0), 12);
        due.is("it is read so", x.letterOf(0, 1, 0), 2);
        due.is("count(10)", x.count(10), 4);
        due.is("undo()", x.undo(), 3);
        due.is("undo()", x.undo(), 2);
        due.is("tableOf(1) restored", x.tableOf(1), 54);
        due.is("tableOf(2) restored", x.tableOf(2), 13);
    }

    private static void swapWrong() {
        BellWords x = new BellWords();
        int[][] wrong = {{0, 0}, {24, 24}, {-1, 0}, {0, -1}, {25, 0}, {0, 25}, {25, 25}, {Integer.MAX_VALUE, 1}};
        for (int[] w : wrong) {
            due.is("swap(" + w[0] + ", " + w[1] + ")", x.swap(w[0], w[1]), INVALID);
        }
        due.is("no change: count(10)", x.count(10), 0);
        due.is("swap(0, 24)", x.swap(0, 24), 55);
        due.is("swap(24, 0)", x.swap(24, 0), 55);
    }

    private static void table() {
        BellWords x = new BellWords();
        for (int letter = 0; letter < 25; letter++) {
            due.is("tableOf(" + letter + ")", x.tableOf(letter), 10 * (letter / 5) + letter % 5 + 11);
        }
        due.is("tableOf(-1)", x.tableOf(-1), INVALID);
        due.is("tableOf(25)", x.tableOf(25), INVALID);
        due.is("tableOf(least)", x.tableOf(Integer.MIN_VALUE), INVALID);
        due.is("tableOf(most)", x.tableOf(Integer.MAX_VALUE), INVALID);
    }
}
