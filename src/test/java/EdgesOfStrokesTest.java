/** Boundary sentences of letters, the table and strokes, and of promises 1 to 8 and 15, each under its words. */
public final class EdgesOfStrokesTest {
    private static final Edges edges = new Edges();
    private static final int INVALID = Edges.INVALID;
    private static final int IMPOSSIBLE = Edges.IMPOSSIBLE;
    private static final int LIMIT = Edges.LIMIT;
    private static final int MISSING = Edges.MISSING;
    private static final String[] TOWERS = {Edges.EMPTY, Edges.BELLS, Edges.FULL};

    public static void main(String[] args) {
        newObject();
        lettersAndTable();
        numbersOfStrokes();
        ringing();
        set();
        swap();
        ring();
        ringToTheLastPlace();
        ringToTheLastTick();
        pause();
        strike();
        mute();
        shift();
        tableOf();
        edges.end();
    }

    private static void newObject() {
        edges.sentence("Creates a tower without strokes.");
        edges.eachAnswers("", "count ?", 0, 0, 0, 0, 0, 0, 0, 0);
        edges.answers("", "count 9", MISSING);
        edges.answers("", "strokeOf 0 0", INVALID);
        edges.sentence("The beat is 4 to 20 ticks (at first 8).");
        edges.answers("", "count 20", 8);
        edges.answers("ring 0", "strokeOf 1 1", 24);
        edges.sentence("by the tolerance (0 to 3 ticks; at first 1)");
        edges.answers("", "count 21", 1);
        edges.sentence("The pause is not set at first; to ring a letter takes it away.");
        edges.answers("", "count 8", 0);
        edges.answers("strike 0|pause", "count 8", 1);
        edges.answers("strike 0|pause|ring 0", "count 8", 0);
        edges.answers("strike 0|pause|ring 0|ring 0", "strokeOf 3 1", 48);
        edges.answers("strike 0|pause|mute 0|ring 0", "count 8", 0);
        edges.sentence("There is a text of at most 60 characters, initially empty");
        edges.answers("", "count 11", 0);
        edges.answers("", "clearText", 0);
        edges.sentence("A history of at most 4 states is kept");
        edges.answers("", "count 10", 0);
        edges.answers("", "undo", IMPOSSIBLE);
    }

    private static void lettersAndTable() {
        edges.sentence("There are 25 letters, numbered from 0 (a) to 24 (y).");
        edges.range("", "ring ?", 0, 0, 24, 0);
        edges.answers("text =a;|play", "letterOf 0 0 0", 0);
        edges.answers("text =y;|play", "letterOf 0 0 0", 24);
        edges.refused("text =z;", "play", IMPOSSIBLE);
        edges.refused("text =`;", "play", IMPOSSIBLE);
        edges.sentence("The table has 5 rows and 5 columns, both numbered from 1 on; each letter has a place in it, at "
                + "first the letter 5 * (row - 1) + column - 1 the place of this row and column.");
        edges.eachAnswers("", "tableOf ?", 11, 12, 13, 14, 15, 21, 22, 23, 24, 25, 31, 32, 33, 34, 35, 41, 42, 43, 44,
                45, 51, 52, 53, 54, 55);
    }

    private static void numbersOfStrokes() {
        edges.sentence("There are at most 160 strokes");
        edges.answers(Edges.strokes(159), "strike 5", 1);
        edges.answers(Edges.strokes(159), "strike 9999", 159);
        edges.answers(Edges.strokes(160), "count 0", 160);
        edges.answers(Edges.strokes(160), "strokeOf 159 0", 1590);
        edges.answers(Edges.strokes(160), "strokeOf 160 0", INVALID);
        edges.refused(Edges.strokes(160), "strike 5", LIMIT);
        edges.refused(Edges.strokes(160), "ring 0", LIMIT);
        edges.sentence("each at a time (0 to 9999, in ticks), no two at the same time");
        edges.answers("strike 0", "strokeOf 0 0", 0);
        edges.answers("strike 9999", "strokeOf 0 0", 9999);
        edges.refused("", "strike -1", INVALID);
        edges.refused("", "strike 10000", INVALID);
        edges.refused("strike 0", "strike 0", IMPOSSIBLE);
        edges.refused("strike 9999", "strike 9999", IMPOSSIBLE);
        edges.refused("strike 9998|strike 9999", "shift 0 1", IMPOSSIBLE);
        edges.sentence("they are numbered from 0 by their times");
        edges.answers("strike 1", "strike 0", 0);
        edges.answers("strike 1", "strike 2", 1);
        edges.answers("strike 0|strike 2", "strike 1", 1);
        edges.answers("strike 9999|strike 0|strike 5000", "strokeOf 0 0", 0);
        edges.answers("strike 9999|strike 0|strike 5000", "strokeOf 1 0", 5000);
        edges.answers("strike 9999|strike 0|strike 5000", "strokeOf 2 0", 9999);
    }

    private static void ringing() {
        edges.sentence("r strokes, each a beat behind the one before, then, 3 beats behind the last of these, the "
                + "first of c strokes, each a beat behind the one before.");
        edges.eachAnswers("ring 0", "strokeOf ? 0", 0, 24, INVALID);
        edges.eachAnswers("ring 4", "strokeOf ? 0", 0, 24, 32, 40, 48, 56, INVALID);
        edges.eachAnswers("ring 20", "strokeOf ? 0", 0, 8, 16, 24, 32, 56, INVALID);
        edges.eachAnswers("ring 24", "strokeOf ? 0", 0, 8, 16, 24, 32, 56, 64, 72, 80, 88, INVALID);
        edges.eachAnswers("set 0 4|ring 1", "strokeOf ? 0", 0, 12, 16, INVALID);
        edges.eachAnswers("set 0 20|ring 5", "strokeOf ? 0", 0, 20, 80, INVALID);
        edges.sentence("The first stroke comes 6 beats behind the last stroke that is there, or 12 beats behind it if "
                + "the pause is set; it comes at the time 0 if there is none.");
        edges.answers("strike 7|ring 0", "strokeOf 1 0", 55);
        edges.answers("strike 7|pause|ring 0", "strokeOf 1 0", 103);
        edges.answers("strike 7|strike 8|ring 0", "strokeOf 2 0", 56);
        edges.answers("strike 7|strike 8|mute 1|ring 0", "strokeOf 1 0", 55);
        edges.answers("strike 7|set 0 4|ring 0", "strokeOf 1 0", 31);
        edges.answers("strike 7|set 0 20|pause|ring 0", "strokeOf 1 0", 247);
        edges.answers("ring 24", "strokeOf 0 0", 0);
        edges.answers("strike 7|mute 0|ring 24", "strokeOf 0 0", 0);
        edges.answers("strike 7|pause|mute 0|ring 24", "strokeOf 0 0", 0);
    }

    private static void set() {
        edges.sentence("`value`: 4 to 20 for the beat, 0 to 3 for the tolerance");
        for (String tower : TOWERS) {
            edges.range(tower, "set 0 ?", 4, 8, 20, 8);
            edges.range(tower, "set 1 ?", 0, 1, 3, 1);
        }
        edges.answers("set 0 4", "count 20", 4);
        edges.answers("set 0 20", "count 20", 20);
        edges.answers("set 1 0", "count 21", 0);
        edges.answers("set 1 3", "count 21", 3);
        edges.sentence("`what`: 0: the beat; 1: the tolerance");
        edges.refusedBelow("", "set ? 8", 0);
        edges.refusedAbove("", "set ? 8", 1);
        edges.refusedBelow(Edges.BELLS, "set ? 3", 0);
        edges.refusedAbove(Edges.BELLS, "set ? 3", 1);
        edges.refused("", "set 2 4", INVALID);
        edges.refused("", "set 20 8", INVALID);
        edges.refused("", "set 21 1", INVALID);
        edges.sentence("Returns what it was; INVALID_ARGUMENT if an argument is out of range.");
        edges.answers("set 0 4", "set 0 20", 4);
        edges.answers("set 0 20", "set 0 20", 20);
        edges.answers("set 1 0", "set 1 3", 0);
        edges.answers("set 1 3", "set 1 3", 3);
        edges.answers("set 1 3|set 0 4", "count 21", 3);
        edges.answers("set 1 3|set 0 4", "count 20", 4);
        edges.sentence("Sets a setting (strokes stay where they are).");
        edges.eachAnswers("ring 0|ring 0|set 0 20", "strokeOf ? 0", 0, 24, 72, 96, INVALID);
        edges.eachAnswers("ring 0|ring 0|set 0 4", "strokeOf ? 0", 0, 24, 72, 96, INVALID);
    }

    private static void swap() {
        edges.sentence("- `one`: 0 to 24");
        for (String tower : TOWERS) {
            edges.range(tower, "swap ? 12", 0, 33, 24, 33);
        }
        edges.sentence("- `other`: 0 to 24, another one");
        for (String tower : TOWERS) {
            edges.range(tower, "swap 12 ?", 0, 11, 24, 55);
        }
        edges.sentence("INVALID_ARGUMENT if an argument is out of range or both are the same.");
        edges.refused("", "swap 0 0", INVALID);
        edges.refused("", "swap 24 24", INVALID);
        edges.refused(Edges.BELLS, "swap 12 12", INVALID);
        edges.refused("", "swap -1 -1", INVALID);
        edges.refused("", "swap 25 25", INVALID);
        edges.refused("", "swap -1 25", INVALID);
        edges.sentence("Returns ten times the row plus the column that the first one has then");
        edges.answers("", "swap 0 24", 55);
        edges.answers("", "swap 24 0", 11);
        edges.answers("", "swap 4 5", 21);
        edges.answers("", "swap 5 4", 15);
        edges.answers("swap 0 24", "swap 24 0", 55);
        edges.answers("swap 0 24", "tableOf 24", 11);
        edges.answers("swap 0 24|swap 0 24", "tableOf 0", 11);
        edges.answers("swap 0 24|swap 0 24", "tableOf 24", 55);
        edges.sentence("Lets two letters change their places in the table.");
        edges.eachAnswers("swap 0 2", "tableOf ?", 13, 12, 11, 14);
    }

    private static void ring() {
        edges.sentence("Returns the number of its first stroke; INVALID_ARGUMENT if letter is out of range;");
        edges.range(Edges.BELLS, "ring ?", 0, 26, 24, 26);
        edges.range("strike 0|strike 1", "ring ?", 0, 2, 24, 2);
        edges.refusedBelow(Edges.FULL, "ring ?", 0);
        edges.refusedAbove(Edges.FULL, "ring ?", 24);
    }

    /** 150 strokes leave room for ten more; y has ten, x nine, a two. */
    private static void ringToTheLastPlace() {
        String many = "text =yyyyyyyyyyyyyyy;|play";
        edges.sentence("LIMIT_REACHED if there would be more than 160 strokes");
        edges.answers(many, "ring 24", 150);
        edges.answers(many + "|ring 24", "count 0", 160);
        edges.answers(many + "|strike 1", "ring 23", 151);
        edges.answers(many + "|strike 1", "ring 19", 151);
        edges.refused(many + "|strike 1", "ring 24", LIMIT);
        edges.answers(many + "|ring 18", "ring 0", 158);
        edges.refused(many + "|ring 18", "ring 1", LIMIT);
        edges.refused(many + "|ring 18", "ring 5", LIMIT);
        edges.refused(many + "|ring 23", "ring 0", LIMIT);
        edges.refused(many + "|ring 23|pause", "ring 0", LIMIT);
        edges.refused(Edges.FULL, "ring 0", LIMIT);
        edges.answers(Edges.FULL + "|mute 0|mute 0", "ring 0", 158);
    }

    /** The last stroke of a comes 3 beats behind its first one, that of y 11 beats. */
    private static void ringToTheLastTick() {
        edges.sentence("or a time would be above 9999.");
        edges.answers("strike 9927", "ring 0", 1);
        edges.answers("strike 9927|ring 0", "count 9", 9999);
        edges.refused("strike 9928", "ring 0", LIMIT);
        edges.answers("strike 9863|ring 24", "count 9", 9999);
        edges.refused("strike 9864", "ring 24", LIMIT);
        edges.answers("strike 9919|ring 1", "count 9", 9999);
        edges.refused("strike 9920", "ring 1", LIMIT);
        edges.refused("strike 9920", "ring 5", LIMIT);
        edges.answers("strike 9879|pause|ring 0", "count 9", 9999);
        edges.refused("strike 9880|pause", "ring 0", LIMIT);
        edges.answers("strike 9963|set 0 4|ring 0", "count 9", 9999);
        edges.refused("strike 9964|set 0 4", "ring 0", LIMIT);
        edges.answers("strike 9819|set 0 20|ring 0", "count 9", 9999);
        edges.refused("strike 9820|set 0 20", "ring 0", LIMIT);
        edges.refused("strike 9999", "ring 0", LIMIT);
    }

    private static void pause() {
        edges.sentence("Returns how many strokes there are; NOT_POSSIBLE if it is set, or there are no strokes.");
        edges.refused("", "pause", IMPOSSIBLE);
        edges.refused("strike 0|mute 0", "pause", IMPOSSIBLE);
        edges.answers("strike 0", "pause", 1);
        edges.answers(Edges.FULL, "pause", 160);
        edges.refused("strike 0|pause", "pause", IMPOSSIBLE);
        edges.refused("strike 0|pause|mute 0", "pause", IMPOSSIBLE);
        edges.refused("strike 0|pause|mute 0|strike 5", "pause", IMPOSSIBLE);
        edges.answers("strike 0|pause|ring 0", "pause", 3);
        edges.answers("strike 0|pause|undo", "pause", 1);
        edges.refused(Edges.FULL + "|pause", "pause", IMPOSSIBLE);
        edges.answers("strike 9999", "pause", 1);
    }

    private static void strike() {
        edges.sentence("- `time`: 0 to 9999");
        edges.range("", "strike ?", 0, 0, 9999, 0);
        edges.range("strike 5", "strike ?", 0, 0, 9999, 1);
        edges.range(Edges.strokes(159) + "|mute 0", "strike ?", 0, 0, 9999, 158);
        edges.sentence("INVALID_ARGUMENT if time is out of range; NOT_POSSIBLE if there is one at this time;");
        for (String tower : TOWERS) {
            edges.refusedBelow(tower, "strike ?", 0);
            edges.refusedAbove(tower, "strike ?", 9999);
        }
        edges.refused(Edges.BELLS, "strike 0", IMPOSSIBLE);
        edges.refused(Edges.BELLS, "strike 488", IMPOSSIBLE);
        edges.answers(Edges.BELLS, "strike 1", 1);
        edges.answers(Edges.BELLS, "strike 487", 25);
        edges.answers(Edges.BELLS, "strike 489", 26);
        edges.refused(Edges.FULL, "strike 0", IMPOSSIBLE);
        edges.refused(Edges.FULL, "strike 2128", IMPOSSIBLE);
        edges.sentence("LIMIT_REACHED if there are 160.");
        edges.refused(Edges.FULL, "strike 1", LIMIT);
        edges.refused(Edges.FULL, "strike 9999", LIMIT);
        edges.answers(Edges.FULL + "|mute 159", "strike 9999", 159);
        edges.answers(Edges.FULL + "|mute 0", "strike 0", 0);
        edges.refused(Edges.FULL + "|mute 0|strike 0", "strike 1", LIMIT);
    }

    private static void mute() {
        edges.sentence("Returns its time; INVALID_ARGUMENT.");
        edges.range("strike 9999", "mute ?", 0, 9999, 0, 9999);
        edges.range(Edges.BELLS, "mute ?", 0, 0, 25, 488);
        edges.range(Edges.FULL, "mute ?", 0, 0, 159, 2128);
        edges.refused("", "mute 0", INVALID);
        edges.refused("", "mute -1", INVALID);
        edges.refused("strike 0|mute 0", "mute 0", INVALID);
        edges.sentence("Mutes a stroke: it is there no more.");
        edges.answers("strike 0|mute 0", "count 0", 0);
        edges.answers("strike 0|mute 0", "count 9", MISSING);
        edges.answers("strike 0|mute 0", "strike 0", 0);
        edges.eachAnswers("strike 0|strike 5|strike 9|mute 0", "strokeOf ? 0", 5, 9, INVALID);
        edges.eachAnswers("strike 0|strike 5|strike 9|mute 1", "strokeOf ? 0", 0, 9, INVALID);
        edges.eachAnswers("strike 0|strike 5|strike 9|mute 2", "strokeOf ? 0", 0, 5, INVALID);
        edges.answers(Edges.FULL + "|mute 159", "count 0", 159);
        edges.answers(Edges.FULL + "|mute 159", "count 9", 2120);
    }

    private static void shift() {
        edges.sentence("- `ticks`: -99 to 99, not 0");
        edges.range(Edges.BELLS, "shift 12 ?", -99, 7, 99, 21);
        edges.range("strike 99", "shift 0 ?", -99, 0, 99, 0);
        edges.refused("strike 99", "shift 0 0", INVALID);
        edges.refused(Edges.BELLS, "shift 25 0", INVALID);
        edges.refused(Edges.FULL, "shift 159 0", INVALID);
        edges.answers("strike 99", "shift 0 -1", 0);
        edges.answers("strike 99", "shift 0 1", 0);
        edges.sentence("Returns its number then; INVALID_ARGUMENT if an argument is out of range;");
        edges.range(Edges.BELLS, "shift ? 1", 0, 0, 25, 25);
        edges.range(Edges.FULL, "shift ? 1", 0, 0, 159, 159);
        edges.refused("", "shift 0 1", INVALID);
        edges.refused("", "shift 0 -1", INVALID);
        edges.refused("", "shift -1 1", INVALID);
        edges.answers("strike 0|strike 5|strike 9", "shift 0 6", 1);
        edges.answers("strike 0|strike 5|strike 9", "shift 0 10", 2);
        edges.answers("strike 0|strike 5|strike 9", "shift 2 -5", 1);
        edges.answers("strike 1|strike 5|strike 9", "shift 2 -9", 0);
        edges.answers("strike 1|strike 5|strike 9|shift 2 -9", "count 0", 3);
        edges.sentence("NOT_POSSIBLE if its time would be below 0 or above 9999, or there is a stroke at this time.");
        edges.answers("strike 1", "shift 0 -1", 0);
        edges.refused("strike 0", "shift 0 -1", IMPOSSIBLE);
        edges.refused("strike 98", "shift 0 -99", IMPOSSIBLE);
        edges.answers("strike 99|shift 0 -99", "strokeOf 0 0", 0);
        edges.answers("strike 9998", "shift 0 1", 0);
        edges.refused("strike 9999", "shift 0 1", IMPOSSIBLE);
        edges.refused("strike 9901", "shift 0 99", IMPOSSIBLE);
        edges.answers("strike 9900|shift 0 99", "strokeOf 0 0", 9999);
        edges.refused("strike 0|strike 99", "shift 0 99", IMPOSSIBLE);
        edges.refused("strike 0|strike 99", "shift 1 -99", IMPOSSIBLE);
        edges.refused(Edges.FULL, "shift 0 8", IMPOSSIBLE);
        edges.answers("strike 0|strike 99", "shift 0 98", 0);
        edges.answers("strike 0|strike 98", "shift 0 99", 1);
    }

    private static void tableOf() {
        edges.sentence("Returns ten times its row plus its column; INVALID_ARGUMENT if letter is out of range.");
        for (String tower : TOWERS) {
            edges.range(tower, "tableOf ?", 0, 11, 24, 55);
        }
        edges.range("swap 0 24", "tableOf ?", 0, 55, 24, 11);
    }
}
