/** Boundary sentences of texts, and of promises 18 to 21, each under its words. */
public final class EdgesOfTextsTest {
    private static final Edges edges = new Edges();
    private static final int INVALID = Edges.INVALID;
    private static final int IMPOSSIBLE = Edges.IMPOSSIBLE;
    private static final int LIMIT = Edges.LIMIT;
    private static final int MISSING = Edges.MISSING;
    /** The strokes of a and b: 0, 24, 72, 96, 104. */
    private static final String AB = "ring 0|ring 1|";

    public static void main(String[] args) {
        type();
        clearText();
        emptyText();
        fullText();
        letters();
        pauses();
        numbers();
        semicolons();
        firstFault();
        wrongStrokes();
        noRoom();
        tooLate();
        reasonsInOrder();
        checks();
        fault();
        play();
        edges.end();
    }

    private static void type() {
        edges.sentence("- `character`: 32 to 126");
        edges.range("", "type ?", 32, 1, 126, 1);
        edges.range(Edges.BELLS, "type ?", 32, 8, 126, 8);
        edges.refusedBelow(Edges.FULL_TEXT, "type ?", 32);
        edges.refusedAbove(Edges.FULL_TEXT, "type ?", 126);
        edges.refused("", "type 0", INVALID);
        edges.refused("", "type -1", INVALID);
        edges.refused("", "type 315", INVALID);
        edges.sentence("Returns the length of the text; INVALID_ARGUMENT if character is out of range; LIMIT_REACHED "
                + "if it has 60 characters.");
        edges.answers("", "type 59", 1);
        edges.answers(text(58), "type 59", 59);
        edges.answers(text(59), "type 59", 60);
        edges.refused(text(60), "type 59", LIMIT);
        edges.refused(text(60), "type 32", LIMIT);
        edges.refused(text(60), "type 126", LIMIT);
        edges.refused(Edges.FULL_TEXT, "type 59", LIMIT);
        edges.answers(text(60) + "|clearText", "type 59", 1);
        edges.answers(text(60), "count 11", 60);
    }

    /** A text of so many blanks. */
    private static String text(int length) {
        StringBuilder recipe = new StringBuilder("text ");
        for (int sign = 0; sign < length; sign++) {
            recipe.append(' ');
        }
        return recipe.toString();
    }

    private static void clearText() {
        edges.sentence("Returns the length it had.");
        edges.answers("", "clearText", 0);
        edges.answers("text ;", "clearText", 1);
        edges.answers(Edges.FULL_TEXT, "clearText", 60);
        edges.answers(Edges.FULL_TEXT + "|clearText", "clearText", 0);
        edges.sentence("Empties the text.");
        edges.answers(Edges.FULL_TEXT + "|clearText", "count 11", 0);
        edges.answers("text ?|clearText", "fault 0", MISSING);
        edges.answers("text =a|clearText|text ;", "fault 1", 1);
        edges.answers("text =aa;|clearText|text =b;|play", "count 0", 3);
        edges.answers(Edges.FULL_TEXT + "|clearText|text =b;|play", "count 0", 3);
        edges.answers("clearText", "count 10", 0);
    }

    private static void emptyText() {
        edges.sentence("NOT_FOUND if the text has no fault (also if it is empty).");
        for (String tower : new String[] {"", "strike 0", Edges.FULL, Edges.FULL_HISTORY}) {
            edges.refused(tower, "fault 0", MISSING);
            edges.refused(tower, "fault 1", MISSING);
        }
        edges.refused("text =a;", "fault 0", MISSING);
        edges.refused("text =a;", "fault 1", MISSING);
        edges.sentence("They are one change, also if there are none.");
        edges.answers("", "play", 0);
        edges.answers("play", "count 10", 1);
        edges.answers("play", "undo", 0);
        edges.answers("strike 5|play", "count 10", 2);
        edges.answers("strike 5", "play", 1);
        edges.answers("text =a;=b;/;|play", "count 10", 1);
        edges.answers("text =a;=b;/;|play|undo", "count 0", 0);
        edges.answers(Edges.FULL_HISTORY + "|play", "count 10", 4);
    }

    private static void faultIs(String tower, String text, int position, int reason) {
        String state = tower + "text " + text;
        edges.answers(state, "fault 0", position);
        edges.answers(state, "fault 1", reason);
        if (position != MISSING) {
            edges.refused(state, "play", IMPOSSIBLE);
        }
    }

    private static void fine(String tower, String text, int strokes) {
        faultIs(tower, text, MISSING, MISSING);
        edges.answers(tower + "text " + text, "play", strokes);
    }

    private static void wrongForm(String text) {
        faultIs(AB, text, 0, 1);
    }

    private static void fullText() {
        edges.sentence("There is a text of at most 60 characters, initially empty: orders, each followed by \";\":");
        // One order of 58 letters; 30 of two signs; the last sign is wrong, or is missing.
        String many = "aaaaaaaaaaaaaaaaaaaaaaaaaaaaaaaaaaaaaaaaaaaaaaaaaaaaaaaaaa";
        fine("", "=" + many + ";", 116);
        faultIs("", "=" + many + "a", 0, 1);
        fine("", Edges.FULL_TEXT.substring(5), 0);
        String pauses = "/;/;/;/;/;/;/;/;/;/;/;/;/;/;/;/;/;/;/;/;/;/;/;/;/;/;/;/;/;";
        fine("", pauses + "/;", 0);
        faultIs("", pauses + "/", 58, 1);
        faultIs("", pauses + "//", 58, 1);
        faultIs("", pauses + ";", 58, 1);
        faultIs("", pauses + " ", 58, 1);
        faultIs("", pauses + ";;", 58, 1);
        faultIs("", "=aaa;" + pauses.substring(4) + " ", 59, 1);
        faultIs("", "=aaa;" + pauses.substring(4) + ";", 59, 1);
    }

    private static void letters() {
        edges.sentence("\"=\" letters a to y (one or more, which are rung)");
        wrongForm("=;");
        fine(AB, "=a;", 7);
        fine(AB, "=y;", 15);
        fine(AB, "=ay;", 17);
        for (String wrong : new String[] {"=`;", "=z;", "=A;", "=Y;", "=a`;", "=az;", "=za;", "= a;", "=a ;", "=a=;",
            "==a;", "=0;", "=a", "=", "a;", "~a;"}) {
            wrongForm(wrong);
        }
        edges.sentence("or \"!\" letters (one or more, which are rung, and then their check: the letter that is their "
                + "sum modulo 25)");
        wrongForm("!;");
        fine(AB, "!a;", 9);
        fine(AB, "!y;", 25);
        for (String wrong : new String[] {"!`;", "!z;", "!A;", "!a`;", "!az;", "! a;", "!a", "!", "!!a;", "\"a;",
            " !a;"}) {
            wrongForm(wrong);
        }
    }

    private static void pauses() {
        edges.sentence("\"/\" (the pause is set, also if it is set, or there are no strokes)");
        fine("", "/;", 0);
        edges.answers("text /;|play", "count 8", 1);
        fine("", "/;/;", 0);
        fine("strike 0|pause|", "/;", 1);
        edges.answers("strike 0|pause|text /;|play", "count 8", 1);
        fine("strike 0|mute 0|", "/;", 0);
        fine(Edges.FULL + "|", "/;", 160);
        edges.answers("text /;|play|clearText|text =a;|play", "strokeOf 0 0", 0);
        edges.answers("text /;=aa;|play", "strokeOf 2 1", 48);
        edges.answers("text =a;/;/;=aa;|play", "strokeOf 2 1", 96);
        edges.answers("text =a;/;/;=aa;|play", "strokeOf 4 1", 48);
        edges.answers("text =a;/;|play|clearText|text =a;|play", "strokeOf 2 1", 96);
        for (String wrong : new String[] {"//;", "/ ;", "/a;", "/1;", "/", "/-0;", ".;", "0;"}) {
            wrongForm(wrong);
        }
    }

    private static void numbers() {
        edges.sentence("numbers of 1 to 4 digits, 0 ahead allowed");
        wrongForm("-;");
        wrongForm("+;");
        fine(AB, "-4;", 4);
        fine(AB, "-04;", 4);
        fine(AB, "-0004;", 4);
        fine(AB, "-0000;", 4);
        wrongForm("-00004;");
        wrongForm("-00000;");
        wrongForm("-10000;");
        fine(AB, "+1;", 6);
        fine(AB, "+01;", 6);
        fine(AB, "+0001;", 6);
        fine(AB, "+9999;", 6);
        wrongForm("+00001;");
        wrongForm("+10000;");
        wrongForm("+99999;");
        wrongForm("+2147483648;");
        wrongForm("-4294967296;");
        for (String wrong : new String[] {"+/;", "+:;", "-/;", "-:;", "+1:;", "+/1;", "+1 ;", "+ 1;", "+a;", "+1a;",
            "++1;", "+-1;", "--1;", "-+1;", "-1-;", "+1", "-1", "+", "-", ",1;", "*1;", "1;"}) {
            wrongForm(wrong);
        }
        edges.answers(AB + "text +0009;|play", "strokeOf 1 0", 9);
        edges.answers(AB + "text +0090;|play", "strokeOf 3 0", 90);
        edges.answers(AB + "text +9999;|play", "count 9", 9999);
        edges.answers(AB + "text -0003;|play", "strokeOf 3 0", 104);
    }

    private static void semicolons() {
        edges.sentence("1 if it is not of this form, its \";\" included,");
        for (String wrong : new String[] {";", ";;", ";=a;", "=a", "=a/;", "=a =b;", "a", " ", "~", "=a:", "=a,=b;"}) {
            wrongForm(wrong);
        }
        faultIs(AB, "=a;;", 3, 1);
        faultIs(AB, "=a;=b", 3, 1);
        faultIs(AB, "=a; =b;", 3, 1);
        faultIs(AB, "/;;", 2, 1);
    }

    private static void firstFault() {
        edges.sentence("The fault of the text is the position, from 0, of the first character of the first order that "
                + "is not possible;");
        faultIs(AB, "?", 0, 1);
        faultIs(AB, "/;?", 2, 1);
        faultIs(AB, "/;/;?;?;", 4, 1);
        faultIs(AB, "-5;?", 0, 2);
        faultIs(AB, "?;-5;", 0, 1);
        faultIs(AB, "/;-5;+0;?", 2, 2);
        faultIs(AB, "/;+0;-5;?", 2, 2);
        faultIs(Edges.FULL + "|", "/;=a;-999;?", 2, 3);
        faultIs(Edges.FULL + "|", "/;-999;=a;?", 2, 2);
    }

    private static void wrongStrokes() {
        edges.sentence("2 if there is no such stroke, or a stroke at this time,");
        fine(AB, "-0;", 4);
        fine(AB, "-4;", 4);
        faultIs(AB, "-5;", 0, 2);
        faultIs(AB, "-9999;", 0, 2);
        faultIs("", "-0;", 0, 2);
        faultIs("strike 0|mute 0|", "-0;", 0, 2);
        fine(Edges.FULL + "|", "-159;", 159);
        faultIs(Edges.FULL + "|", "-160;", 0, 2);
        fine("", "+0;", 1);
        fine("", "+9999;", 1);
        faultIs(AB, "+0;", 0, 2);
        faultIs(AB, "+104;", 0, 2);
        fine(AB, "+103;", 6);
        fine(AB, "+105;", 6);
        faultIs("strike 9999|", "+9999;", 0, 2);
        // By the strokes as they are when those ahead of it are done.
        fine(AB, "=a;-6;", 6);
        faultIs(AB, "=a;-7;", 3, 2);
        faultIs(AB, "-0;-4;", 3, 2);
        fine(AB, "+1;-5;", 5);
        fine(AB, "-0;+0;", 5);
        faultIs(AB, "+1;+1;", 3, 2);
        faultIs(AB, "=a;+152;", 3, 2);
        fine(AB, "=a;+151;", 8);
    }

    private static void noRoom() {
        edges.sentence("3 if there is no room, or the time would be above 9999, when those ahead of it are done (of an "
                + "order that rings several letters also when those ahead in it are rung).");
        String room2 = Edges.FULL + "|mute 0|mute 0|";
        String room4 = Edges.FULL + "|mute 0|mute 0|mute 0|mute 0|";
        fine(room2, "=a;", 160);
        faultIs(room2, "=b;", 0, 3);
        faultIs(room2, "=aa;", 0, 3);
        faultIs(room2, "=a;=a;", 3, 3);
        faultIs(room2, "!a;", 0, 3);
        fine(room4, "=aa;", 160);
        fine(room4, "=a;=a;", 160);
        faultIs(room4, "=aaa;", 0, 3);
        faultIs(room4, "=ab;", 0, 3);
        fine(room4, "!a;", 160);
        faultIs(room4, "!b;", 0, 3);
        faultIs(room4, "=a;!a;", 3, 3);
        faultIs(room4, "!aa;", 0, 3);
        fine(room2, "+1;+2;", 160);
        faultIs(room2, "+1;+2;+3;", 6, 3);
        fine(room2, "+1;+2;-0;+3;", 160);
        faultIs(Edges.FULL + "|", "+1;", 0, 3);
        faultIs(Edges.FULL + "|", "=a;", 0, 3);
        fine(Edges.FULL + "|", "-0;+1;", 160);
        fine(Edges.FULL + "|", "-0;-0;=a;", 160);
        faultIs(Edges.FULL + "|", "-0;=a;", 3, 3);
        // Sixteen letters y fill an empty tower.
        fine("", "=yyyyyyyyyyyyyyyy;", 160);
        faultIs("", "=yyyyyyyyyyyyyyyya;", 0, 3);
        faultIs("", "=yyyyyyyyyyyyyyyy;+9999;", 18, 3);
    }

    /** a comes 6 beats behind the last stroke and ends 3 beats behind that: 72 ticks, or 120 with the pause. */
    private static void tooLate() {
        edges.sentence("or the time would be above 9999");
        fine("strike 9927|", "=a;", 3);
        faultIs("strike 9928|", "=a;", 0, 3);
        fine("strike 9879|", "/;=a;", 3);
        faultIs("strike 9880|", "/;=a;", 2, 3);
        fine("strike 9879|pause|", "=a;", 3);
        faultIs("strike 9880|pause|", "=a;", 0, 3);
        fine("strike 9855|", "=aa;", 5);
        faultIs("strike 9856|", "=aa;", 0, 3);
        fine("strike 9855|", "=a;=a;", 5);
        faultIs("strike 9856|", "=a;=a;", 3, 3);
        fine("strike 9855|", "!a;", 5);
        faultIs("strike 9856|", "!a;", 0, 3);
        fine("strike 9963|set 0 4|", "=a;", 3);
        faultIs("strike 9964|set 0 4|", "=a;", 0, 3);
        faultIs("", "+9999;=a;", 6, 3);
        fine("", "+9999;-0;=a;", 2);
    }

    private static void reasonsInOrder() {
        edges.sentence("its reason is the first of these that applies:");
        faultIs(Edges.FULL + "|", "+0;", 0, 2);
        faultIs(Edges.FULL + "|", "+0", 0, 1);
        faultIs(Edges.FULL + "|", "+1", 0, 1);
        faultIs(Edges.FULL + "|", "=a", 0, 1);
        faultIs(Edges.FULL + "|", "=az;", 0, 1);
        faultIs(Edges.FULL + "|", "-160", 0, 1);
        faultIs(AB, "-5", 0, 1);
        faultIs(AB, "-00005;", 0, 1);
        faultIs("strike 9999|", "=a`;", 0, 1);
        faultIs("strike 9999|", "!a", 0, 1);
    }

    private static void checks() {
        edges.sentence("their check: the letter that is their sum modulo 25");
        edges.answers("text !a;|play", "letterOf 0 1 0", 0);
        edges.answers("text !y;|play", "letterOf 0 1 0", 24);
        edges.answers("text !yb;|play", "letterOf 0 2 0", 0);
        edges.answers("text !xb;|play", "letterOf 0 2 0", 24);
        edges.answers("text !yyb;|play", "letterOf 0 3 0", 24);
        edges.answers("text !yyc;|play", "letterOf 0 3 0", 0);
        edges.answers("text !y;!b;|play", "letterOf 0 3 0", 1);
        edges.answers("swap 0 24|text !a;|play", "letterOf 0 1 0", 0);
        edges.answers("swap 0 24|text !a;|play", "count 0", 20);
        edges.answers("text !a;|play", "messageOf 0 2", 1);
    }

    private static void fault() {
        edges.sentence("`what`: 0: its position; 1: its reason");
        edges.range(Edges.BELLS, "fault ?", 0, 3, 1, 2);
        edges.range("", "fault ?", 0, MISSING, 1, MISSING);
        edges.range("text =a", "fault ?", 0, 0, 1, 1);
        edges.refusedBelow(Edges.FULL_TEXT, "fault ?", 0);
        edges.refusedAbove(Edges.FULL_TEXT, "fault ?", 1);
        edges.refused("text /;=a;", "fault 0", MISSING);
    }

    private static void play() {
        edges.sentence("Returns how many strokes there are then; NOT_POSSIBLE if it has a fault.");
        edges.answers("text -0;", "count 0", 0);
        edges.refused("text -0;", "play", IMPOSSIBLE);
        edges.refused("text =a;-0;=b;-9;", "play", IMPOSSIBLE);
        edges.refused(Edges.BELLS, "play", IMPOSSIBLE);
        edges.refused(Edges.FULL + "|text -0;-0;=b;", "play", IMPOSSIBLE);
        edges.refused(Edges.FULL_HISTORY + "|text =a;?", "play", IMPOSSIBLE);
        edges.answers("strike 0|text -0;", "play", 0);
        edges.answers("strike 0|text -0;|play", "count 9", MISSING);
        edges.answers("strike 0|text -0;|play", "messageOf 0 0", INVALID);
        edges.sentence("Does all orders of the text, which stays.");
        edges.answers(Edges.FULL_TEXT + "|play", "count 11", 60);
        edges.answers("text =a;|play", "play", 4);
        edges.answers("text +5;|play", "fault 1", 2);
        edges.refused("text +5;|play", "play", IMPOSSIBLE);
    }
}
