/** Boundary sentences of changes and errors, of promises 16 and 17, and of the 512 calls, each under its words. */
public final class EdgesOfStatesTest {
    private static final Edges edges = new Edges();
    private static final int INVALID = Edges.INVALID;
    private static final int IMPOSSIBLE = Edges.IMPOSSIBLE;
    private static final int LIMIT = Edges.LIMIT;
    private static final int MISSING = Edges.MISSING;
    private static final String[] CHANGES = {"set 0 8", "set 1 1", "swap 0 1", "ring 0", "pause", "strike 50",
        "mute 0", "shift 0 1", "play"};

    public static void main(String[] args) {
        changes();
        fullHistory();
        oldestState();
        allButTheText();
        undo();
        count();
        invalidFirst();
        impossibleBeforeLimit();
        refusedCalls();
        lastCall();
        edges.end();
    }

    private static void changes() {
        edges.sentence("The changes are the calls of set, swap, ring, pause, strike, mute, shift and play that return "
                + "no error.");
        for (String change : CHANGES) {
            edges.answers("strike 0|" + change, "count 10", 2);
            edges.answers("strike 0|" + change, "undo", 1);
            edges.answers("strike 0|" + change + "|undo", "strokeOf 0 0", 0);
            edges.answers("strike 0|" + change + "|undo", "count 0", 1);
        }
        for (String other : new String[] {"count 0", "strokeOf 0 0", "messageOf 0 0", "messageOf 0 4",
            "letterOf 0 0 1", "read -1", "tableOf 0", "type 59", "clearText", "text =a;-9;|fault 0"}) {
            edges.answers("strike 0|" + other, "count 10", 1);
            edges.answers("strike 0|" + other, "undo", 0);
        }
        // An undo is none: what was undone does not come back.
        edges.answers("strike 0|strike 1|undo", "count 10", 1);
        edges.answers("strike 0|strike 1|undo|undo", "count 0", 0);
    }

    private static void fullHistory() {
        edges.sentence("A history of at most 4 states is kept");
        edges.answers("strike 0|strike 100|strike 200", "count 10", 3);
        edges.answers(Edges.FULL_HISTORY, "count 10", 4);
        for (String change : CHANGES) {
            edges.answers(Edges.FULL_HISTORY + "|" + change, "count 10", 4);
            edges.answers(Edges.FULL_HISTORY + "|" + change, "undo", 3);
            edges.answers(Edges.FULL_HISTORY + "|" + change + "|undo", "count 0", 4);
            edges.answers(Edges.FULL_HISTORY + "|" + change + "|undo|undo|undo|undo", "count 0", 1);
            edges.answers(Edges.FULL_HISTORY + "|" + change + "|undo|undo|undo", "undo", 0);
            edges.refused(Edges.FULL_HISTORY + "|" + change + "|undo|undo|undo|undo", "undo", IMPOSSIBLE);
        }
    }

    /** So many strokes, each a change, then so many undos. */
    private static String back(int changes, int undos) {
        StringBuilder recipe = new StringBuilder(Edges.strokes(changes));
        for (int undo = 0; undo < undos; undo++) {
            recipe.append("|undo");
        }
        return recipe.toString();
    }

    private static void oldestState() {
        edges.sentence("if there are 5 states then, the oldest one is dropped.");
        edges.answers(back(4, 4), "count 0", 0);
        edges.refused(back(4, 4), "undo", IMPOSSIBLE);
        for (int changes = 5; changes <= 13; changes++) {
            edges.answers(back(changes, 0), "count 10", 4);
            edges.answers(back(changes, 1), "count 0", changes - 1);
            edges.answers(back(changes, 4), "count 0", changes - 4);
            edges.answers(back(changes, 4), "count 10", 0);
            edges.refused(back(changes, 4), "undo", IMPOSSIBLE);
        }
        // Slots that came free are used again, whichever the oldest one is.
        edges.answers(back(6, 2) + "|strike 5|strike 6|strike 7|undo|undo|undo|undo", "count 0", 3);
        edges.refused(back(6, 2) + "|strike 5|strike 6|strike 7|undo|undo|undo|undo", "undo", IMPOSSIBLE);
        edges.answers(back(6, 2) + "|strike 5|strike 6|undo|undo|undo|undo", "count 0", 2);
        edges.answers(back(160, 4), "count 0", 156);
    }

    private static void allButTheText() {
        edges.sentence("each change records everything before it but the text");
        edges.answers("set 0 4|set 0 20|undo", "count 20", 4);
        edges.answers("set 1 0|set 1 3|undo", "count 21", 0);
        edges.answers("set 0 4|set 0 20|undo|ring 0", "strokeOf 1 0", 12);
        edges.answers("swap 0 24|swap 0 12|undo", "tableOf 0", 55);
        edges.answers("swap 0 24|swap 0 12|undo", "tableOf 12", 33);
        edges.answers("strike 0|pause|ring 0|undo", "count 8", 1);
        edges.answers("strike 0|pause|undo", "count 8", 0);
        edges.answers("strike 7|mute 0|undo", "strokeOf 0 0", 7);
        edges.answers("strike 7|shift 0 9|undo", "strokeOf 0 0", 7);
        edges.answers(Edges.FULL + "|mute 0|undo", "count 0", 160);
        edges.answers(Edges.FULL + "|mute 0|undo", "strokeOf 0 0", 0);
        edges.answers(Edges.FULL + "|mute 159|undo", "count 9", 2128);
        edges.refused(Edges.FULL + "|mute 0|undo", "strike 1", LIMIT);
        edges.answers(Edges.FULL + "|undo", "count 0", 0);
        edges.answers("text =a;|strike 0|undo", "count 11", 3);
        edges.answers("strike 0|text =a;|undo", "count 11", 3);
        edges.answers("text =a;|strike 0|clearText|undo", "count 11", 0);
        edges.answers("text =a;|play|undo", "play", 2);
        edges.answers("text =a;|strike 0|clearText|text =b;|undo", "play", 3);
        // What is read is that of the restored state.
        edges.answers("ring 7|swap 7 8|undo", "letterOf 0 0 0", 7);
        edges.answers("strike 0|strike 6|set 0 20|undo", "count 4", 0);
        edges.answers("strike 0|strike 6|set 1 0|undo", "count 6", 1);
    }

    private static void undo() {
        edges.sentence("Returns the number of states that are left in the history; NOT_POSSIBLE if it is empty.");
        edges.refused("", "undo", IMPOSSIBLE);
        edges.answers("strike 0", "undo", 0);
        edges.refused("strike 0|undo", "undo", IMPOSSIBLE);
        edges.answers(Edges.FULL_HISTORY, "undo", 3);
        edges.answers(Edges.FULL_HISTORY + "|undo|undo", "undo", 1);
        edges.answers(Edges.FULL_HISTORY + "|undo|undo|undo", "undo", 0);
        edges.refused(Edges.FULL_HISTORY + "|undo|undo|undo|undo", "undo", IMPOSSIBLE);
        edges.refused("text =a;", "undo", IMPOSSIBLE);
        edges.answers("strike 0|undo|strike 5", "undo", 0);
    }

    private static void count() {
        edges.sentence("Returns the number; INVALID_ARGUMENT if what is out of range.");
        for (String tower : new String[] {"", Edges.BELLS, Edges.FULL}) {
            edges.refusedBelow(tower, "count ?", 0);
            edges.refusedAbove(tower, "count ?", 11);
            edges.refusedBelow(tower, "count ?", 20);
            edges.refusedAbove(tower, "count ?", 21);
            edges.refused(tower, "count 15", INVALID);
        }
        edges.eachAnswers("", "count ?", 0, 0, 0, 0, 0, 0, 0, 0, 0, MISSING, 0, 0, INVALID);
        edges.eachAnswers(Edges.BELLS, "count ?", 26, 2, 5, 0, 0, 0, 0, 1, 0, 488, 4, 7, INVALID);
        edges.eachAnswers(Edges.FULL, "count ?", 160, 1, 16, 0, 0, 0, 0, 0, 0, 2128, 1, 0, INVALID);
        edges.answers(Edges.BELLS, "count 19", INVALID);
        edges.answers(Edges.BELLS, "count 20", 8);
        edges.answers(Edges.BELLS, "count 21", 1);
        edges.answers(Edges.BELLS, "count 22", INVALID);
        edges.sentence("9: the time of the last stroke (NOT_FOUND if there is none)");
        edges.refused("", "count 9", MISSING);
        edges.refused("strike 5|mute 0", "count 9", MISSING);
        edges.answers("strike 0", "count 9", 0);
        edges.answers("strike 9999", "count 9", 9999);
        edges.answers("strike 0|strike 1", "count 9", 1);
        edges.sentence("8: 1 if the pause is set, otherwise 0");
        edges.answers("strike 0|pause", "count 8", 1);
        edges.answers("strike 0|pause|mute 0", "count 8", 1);
        edges.sentence("3: unreadable letters; 4: strokes that are left out; 5: strokes that were placed; 6: doubtful "
                + "gaps; 7: messages that are right");
        edges.eachAnswers(Edges.beaten("1/61/12 12/13 13"), "count ?", 22, 4, 6, 2, 0, 0, 0, 2);
        edges.eachAnswers(Edges.struck(0, 5, 17, 36, 100), "count ?", 5, 2, 2, 2, 1, 2, 3, 0);
        edges.eachAnswers(Edges.struck(0, 63, 128, 133), "count ?", 4, 2, 3, 3, 1, 0, 2, 0);
    }

    private static void invalidFirst() {
        edges.sentence("INVALID_ARGUMENT is returned rather than NOT_POSSIBLE, NOT_POSSIBLE rather than LIMIT_REACHED, "
                + "and LIMIT_REACHED rather than NOT_FOUND.");
        edges.refused(Edges.FULL, "ring 25", INVALID);
        edges.refused(Edges.FULL, "ring -1", INVALID);
        edges.refused("strike 9999", "ring 25", INVALID);
        edges.refused(Edges.FULL, "strike -1", INVALID);
        edges.refused(Edges.FULL, "strike 10000", INVALID);
        edges.refused("strike 0", "shift 0 -100", INVALID);
        edges.refused("strike 9999", "shift 0 100", INVALID);
        edges.refused("strike 0", "shift 0 0", INVALID);
        edges.refused("strike 0|strike 1", "shift 2 -1", INVALID);
        edges.refused("strike 0|strike 100", "shift 0 100", INVALID);
        edges.refused("strike 0", "strokeOf 0 7", INVALID);
        edges.refused("strike 0|strike 1", "strokeOf 1 7", INVALID);
        edges.refused("strike 0", "letterOf 0 0 5", INVALID);
        edges.refused("strike 0", "correction 0 0 4", INVALID);
        edges.refused("strike 0", "correction 0 5 -1", INVALID);
        edges.refused("", "vote 0 3", INVALID);
        edges.refused("", "vote -1 0", INVALID);
        edges.refused("", "read -2", INVALID);
        edges.refused(Edges.FULL_TEXT, "type 127", INVALID);
        edges.refused(Edges.FULL_TEXT, "type 31", INVALID);
        edges.refused("", "fault 2", INVALID);
        edges.refused("", "fault -1", INVALID);
    }

    private static void impossibleBeforeLimit() {
        edges.sentence("NOT_POSSIBLE rather than LIMIT_REACHED");
        edges.refused(Edges.FULL, "strike 0", IMPOSSIBLE);
        edges.refused(Edges.FULL, "strike 8", IMPOSSIBLE);
        edges.refused(Edges.FULL, "strike 2128", IMPOSSIBLE);
        edges.refused(Edges.FULL, "strike 2129", LIMIT);
    }

    /** With the pause set, the next error of each call that changes something, in a tower with a full history. */
    private static void refusedCalls() {
        edges.sentence("A call that returns an error changes nothing.");
        String state = "set 0 9|set 1 2|swap 3 4|text =ab;!c;|play|pause|text /;?";
        for (String wrong : new String[] {"set 0 3", "set 0 21", "set 1 -1", "set 1 4", "set 2 1", "swap 5 5",
            "swap -1 5", "swap 5 25", "ring -1", "ring 25", "strike -1", "strike 10000", "mute -1", "mute 99",
            "shift 0 0", "shift 0 100", "shift 99 1"}) {
            edges.refused(state, wrong, INVALID);
        }
        for (String wrong : new String[] {"pause", "strike 0", "shift 0 -1", "shift 1 -27", "play"}) {
            edges.refused(state, wrong, IMPOSSIBLE);
        }
        for (String wrong : new String[] {"ring 0", "ring 24"}) {
            edges.refused(state + "|strike 9999", wrong, LIMIT);
            edges.refused(Edges.FULL + "|pause|set 0 9|swap 0 1|text =a;", wrong, LIMIT);
        }
        edges.refused(Edges.FULL + "|pause|set 0 9|swap 0 1|text =a;", "strike 1", LIMIT);
        edges.refused(Edges.FULL + "|pause|set 0 9|swap 0 1|text =a;", "play", IMPOSSIBLE);
        edges.refused(Edges.FULL + "|undo|text ;", "undo", IMPOSSIBLE);
        edges.refused(state, "type 31", INVALID);
        edges.refused(state, "type 127", INVALID);
    }

    private static void lastCall() {
        edges.sentence("An object is used for at most 512 calls after it has been made");
        StringBuilder recipe = new StringBuilder();
        for (int call = 0; call < 510; call++) {
            recipe.append(call == 0 ? "" : "|").append(call % 2 == 0 ? "strike 0" : "mute 0");
        }
        edges.answers(recipe.toString(), "count 10", 4);
        edges.answers(recipe + "|ring 24", "count 0", 10);
        edges.answers(recipe + "|ring 24", "undo", 3);
        edges.answers(recipe + "|ring 24", "letterOf 0 0 0", 24);
    }
}
