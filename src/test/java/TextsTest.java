/** Promises 18 (type), 19 (clearText), 20 (fault) and 21 (play). */
public final class TextsTest {
    private static final Due due = new Due();
    private static final int INVALID = -1000001;
    private static final int IMPOSSIBLE = -1000002;
    private static final int LIMIT = -1000003;
    private static final int MISSING = -1000004;

    public static void main(String[] args) {
        type();
        clearText();
        forms();
        strokesInOrders();
        ordersByTheState();
        noRoom();
        tooLate();
        faultWrong();
        play();
        playChecks();
        playPauses();
        playIsOneChange();
        due.end();
    }

    private static void type() {
        BellWords x = new BellWords();
        for (int wrong : new int[] {31, 127, 0, -1, 10, 1000, Integer.MIN_VALUE, Integer.MAX_VALUE}) {
            due.is("type(" + wrong + ")", x.type(wrong), INVALID);
        }
        due.is("type(32)", x.type(32), 1);
        due.is("type(126)", x.type(126), 2);
        for (int i = 3; i <= 60; i++) {
            due.is("type('a')", x.type('a'), i);
        }
        due.is("a 61st one", x.type('a'), LIMIT);
        due.is("a 61st one out of range", x.type(31), INVALID);
        due.is("the length", x.count(11), 60);
        due.is("no change", x.count(10), 0);
    }

    private static void clearText() {
        BellWords x = new BellWords();
        due.is("clearText() of none", x.clearText(), 0);
        Due.type(x, "=abc");
        due.is("clearText()", x.clearText(), 4);
        due.is("the length", x.count(11), 0);
        due.is("no fault then", x.fault(0), MISSING);
        due.is("clearText() again", x.clearText(), 0);
        Due.type(x, "+5;");
        due.is("what was there is gone", x.play(), 1);
        due.is("no change", x.count(10), 1);
    }

    /** The fault of a text in a tower with the strokes of "ab", at 0, 24, 72, 96 and 104. */
    private static void faultIs(String text, int position, int reason) {
        BellWords x = Due.rung("ab");
        Due.type(x, text);
        due.is(text + " fault(0)", x.fault(0), position);
        due.is(text + " fault(1)", x.fault(1), reason);
        due.is(text + " play()", x.play() == IMPOSSIBLE ? 1 : 0, position == MISSING ? 0 : 1);
        due.is(text + " strokes", x.count(0) == 5 || position == MISSING ? 1 : 0, 1);
        due.is(text + " states", x.count(10), position == MISSING ? 3 : 2);
    }

    private static void fine(String text) {
        faultIs(text, MISSING, MISSING);
    }

    private static void forms() {
        fine("");
        fine("=a;");
        fine("=y;=abcdefghijklmnop;");
        fine("!a;");
        fine("!yy;");
        fine("/;");
        fine("/;/;");
        fine("-0;");
        fine("-0004;");
        fine("+1;");
        fine("+0001;");
        fine("+9999;");
        for (String wrong : new String[] {"=", "=a", ";", ";;", "=;", "!;", "!a", "/", "//;", "/a;", "-;", "-", "+;",
            "+", "-a;", "+a;", "-1a;", "+1 ;", "+00001;", "-00000;", "-12345;", "=z;", "=A;", "=`;", "={;", "=a1;",
            "= a;", "=a =b;", "!z;", "!a!;", "a;", " =a;", "1;", "-+1;", "--1;", "+-1;", "=a/;", "*;", "~", "+1/;",
            "+:;", "=a,;"}) {
            faultIs(wrong, 0, 1);
        }
        faultIs("=a;b;", 3, 1);
        faultIs("=a;=b", 3, 1);
        faultIs("=a;;", 3, 1);
        faultIs("/;+5;-0;x", 8, 1);
        faultIs("=a; ", 3, 1);
        faultIs("=a;+12;-", 7, 1);
    }

    private static void strokesInOrders() {
        fine("-4;");
        faultIs("-5;", 0, 2);
        faultIs("-9999;", 0, 2);
        faultIs("+0;", 0, 2);
        faultIs("+104;", 0, 2);
        faultIs("+0024;", 0, 2);
        faultIs("+1;+1;", 3, 2);
        faultIs("-4;-4;", 3, 2);
        faultIs("-5;=", 0, 2);
        faultIs("-5", 0, 1);
        faultIs("+0", 0, 1);
        faultIs("/;-5;+0;=;", 2, 2);
    }

    private static void ordersByTheState() {
        fine("+1;-5;");
        fine("-0;+0;");
        fine("=a;-6;");
        faultIs("=a;-7;", 3, 2);
        // a is rung from 104 + 48 on.
        faultIs("=a;+152;", 3, 2);
        faultIs("=a;+176;", 3, 2);
        fine("=a;+153;");
        // Behind the pause, from 104 + 96 on.
        faultIs("/;=a;+200;", 5, 2);
        fine("/;=a;+152;");
        fine("-0;-0;-0;-0;-0;/;=a;");
        faultIs("-0;-0;-0;-0;-0;/;=a;+0;", 20, 2);
        faultIs("-0;-0;-0;-0;-0;-0;", 15, 2);
        BellWords x = Due.rung("a");
        Due.type(x, "=b;-2;");
        due.is("no fault", x.fault(0), MISSING);
        x.set(0, 4);
        due.is("the fault is by the state as it is", x.fault(1), MISSING);
        Due.type(x, "+48;");
        due.is("24 + 24 is muted", x.fault(1), MISSING);
        Due.type(x, "+64;");
        due.is("64 is there", x.fault(0), 10);
    }

    private static BellWords filled(int strokes) {
        BellWords x = new BellWords();
        for (int i = 0; i < strokes; i++) {
            x.strike(2 * i);
        }
        return x;
    }

    private static void faultIs(BellWords x, String text, int position, int reason) {
        Due.write(x, text);
        due.is(text + " fault(0)", x.fault(0), position);
        due.is(text + " fault(1)", x.fault(1), reason);
    }

    private static void noRoom() {
        BellWords x = filled(158);
        faultIs(x, "=a;", MISSING, MISSING);
        faultIs(x, "=b;", 0, 3);
        faultIs(x, "=aa;", 0, 3);
        faultIs(x, "!a;", 0, 3);
        faultIs(x, "-0;-0;!a;", MISSING, MISSING);
        faultIs(x, "-0;!a;", 3, 3);
        faultIs(x, "+1;+3;", MISSING, MISSING);
        faultIs(x, "+1;+3;+5;", 6, 3);
        faultIs(x, "+1;+3;+1;", 6, 2);
        faultIs(x, "+1;+3;-0;+1;", 9, 2);
        faultIs(x, "+1;+3;-0;+5;", MISSING, MISSING);
        faultIs(x, "+1;=a", 3, 1);
        faultIs(x, "+1;=a;", 3, 3);
        due.is("play()", x.play(), IMPOSSIBLE);
        due.is("nothing is done", x.count(0), 158);
        BellWords y = filled(160);
        faultIs(y, "/;-0;+0;", MISSING, MISSING);
        faultIs(y, "+1;", 0, 3);
        faultIs(y, "+2;", 0, 2);
    }

    private static void tooLate() {
        BellWords x = Due.struck(9999 - 48 - 24);
        faultIs(x, "=a;", MISSING, MISSING);
        faultIs(x, "=b;", 0, 3);
        faultIs(x, "/;=a;", 2, 3);
        faultIs(x, "=aa;", 0, 3);
        faultIs(x, "!a;", 0, 3);
        faultIs(x, "-0;!aa;", MISSING, MISSING);
        faultIs(x, "-0;/;!aa;+9999;=a;", 15, 3);
        Due.write(x, "=a;");
        due.is("play()", x.play(), 3);
        due.is("its end", x.count(9), 9999);
    }

    private static void faultWrong() {
        BellWords x = Due.rung("a");
        due.is("fault(2)", x.fault(2), INVALID);
        due.is("fault(-1)", x.fault(-1), INVALID);
        due.is("fault(most)", x.fault(Integer.MAX_VALUE), INVALID);
        due.is("no text", x.fault(0), MISSING);
        due.is("no text", x.fault(1), MISSING);
        Due.type(x, "?");
        due.is("fault(2)", x.fault(2), INVALID);
        due.is("fault(0)", x.fault(0), 0);
        due.is("fault(1)", x.fault(1), 1);
    }

    private static void play() {
        BellWords x = new BellWords();
        Due.type(x, "=ab;-1;+25;+9999;");
        due.is("play()", x.play(), 6);
        int[] times = {0, 25, 72, 96, 104, 9999};
        for (int stroke = 0; stroke < times.length; stroke++) {
            due.is("strokeOf(" + stroke + ", 0)", x.strokeOf(stroke, 0), times[stroke]);
        }
        due.is("the text stays", x.count(11), 17);
        due.is("letters are read", x.letterOf(0, 1, 0), 1);
        due.is("play() again", x.play(), IMPOSSIBLE);
        due.is("strokes stay", x.count(0), 6);
        x.clearText();
        due.is("play() without orders", x.play(), 6);
        BellWords y = new BellWords();
        y.swap(0, 24);
        y.set(0, 4);
        Due.type(y, "=a;");
        due.is("by the table", y.play(), 10);
        due.is("by the beat", y.count(9), 44);
    }

    private static void playChecks() {
        BellWords x = new BellWords();
        Due.type(x, "!yyc;/;!k;/;!hy;");
        due.is("play()", x.play(), 10 + 10 + 4 + 2 + 4 + 4 + 5 + 10 + 4);
        for (int message = 0; message < 3; message++) {
            due.is("messageOf(" + message + ", 2)", x.messageOf(message, 2), 1);
        }
        due.is("24 + 24 + 2", x.letterOf(0, 3, 0), 0);
        due.is("10", x.letterOf(1, 1, 0), 10);
        due.is("7 + 24", x.letterOf(2, 2, 0), 6);
        due.is("count(7)", x.count(7), 3);
    }

    private static void playPauses() {
        BellWords x = new BellWords();
        Due.type(x, "/;=a;");
        due.is("play() of a pause without strokes", x.play(), 2);
        due.is("the first stroke", x.strokeOf(0, 0), 0);
        due.is("the pause is taken away", x.count(8), 0);
        Due.write(x, "=a;/;");
        due.is("play()", x.play(), 4);
        due.is("the pause is set", x.count(8), 1);
        Due.write(x, "/;/;=aa;");
        due.is("play() with the pause set", x.play(), 8);
        due.is("gap behind the pause", x.strokeOf(4, 1), 96);
        due.is("gap of the next letter", x.strokeOf(6, 1), 48);
        due.is("the pause is taken away", x.count(8), 0);
        Due.write(x, "/;-0;+9999;");
        due.is("play()", x.play(), 8);
        due.is("it is left by others", x.count(8), 1);
        BellWords y = new BellWords();
        Due.type(y, "/;");
        due.is("play()", y.play(), 0);
        due.is("the pause without strokes", y.count(8), 1);
    }

    private static void playIsOneChange() {
        BellWords x = Due.rung("a");
        Due.type(x, "=b;+1;-0;/;");
        due.is("play()", x.play(), 5);
        due.is("states", x.count(10), 2);
        due.is("undo()", x.undo(), 1);
        due.is("strokes", x.count(0), 2);
        due.is("the first one", x.strokeOf(0, 0), 0);
        due.is("the pause", x.count(8), 0);
        due.is("the text", x.count(11), 11);
        Due.type(x, "?");
        due.is("play() with a fault", x.play(), IMPOSSIBLE);
        due.is("states", x.count(10), 1);
        due.is("strokes", x.count(0), 2);
    }
}
