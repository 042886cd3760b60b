/** Boundary sentences of reading, checks and copies, and of promises 9 to 14, each under its words. */
public final class EdgesOfReadingTest {
    private static final Edges edges = new Edges();
    private static final int INVALID = Edges.INVALID;
    private static final int MISSING = Edges.MISSING;
    /** Four times the first gap of the cases 1 to 5, in beats. */
    private static final int[] QUARTERS = {3, 6, 10, 18, 32};

    public static void main(String[] args) {
        firstStroke();
        casesOfGaps();
        gapsPastStrokesThatAreLeftOut();
        readableLetters();
        doubtfulGaps();
        rightMessages();
        corrections();
        votes();
        strokeOf();
        messageOf();
        letterOf();
        lettersWithOneMore();
        correction();
        vote();
        read();
        readInOrder();
        edges.end();
    }

    private static void firstStroke() {
        edges.sentence("The strokes are gone through by their times; the first one begins a message, a letter and a "
                + "group.");
        for (String first : new String[] {"strike 0", "strike 9999", "strike 5|strike 3|mute 1"}) {
            edges.answers(first, "count 1", 1);
            edges.answers(first, "count 2", 1);
            edges.answers(first, "letterOf 0 0 1", 1);
            edges.answers(first, "letterOf 0 0 2", 1);
            edges.answers(first, "messageOf 0 5", 0);
            edges.answers(first, "count 4", 0);
            edges.answers(first, "count 6", 0);
        }
        // What was left out begins all of them when the one ahead of it is muted.
        edges.answers("strike 0|strike 2|mute 0", "strokeOf 0 4", 0);
        edges.answers("strike 0|strike 2|mute 0", "count 4", 0);
        edges.answers("strike 0|strike 2|mute 0", "count 6", 0);
        edges.answers("strike 0|strike 100|mute 0", "count 1", 1);
        edges.answers("strike 0|strike 100|mute 0", "messageOf 0 5", 0);
    }

    /** For each beat and case the least gap of it, and that which is less by one tick. */
    private static void casesOfGaps() {
        String[] sentences = {
            "if 4 times the gap is less than 3 beats, the stroke is left out (it is too near);",
            "otherwise if that is less than 6 beats, it goes on with the group;",
            "otherwise if that is less than 10 beats, a stroke is missing: it is placed, and counts, and the stroke "
                + "goes on with the group;",
            "otherwise if that is less than 18 beats, it begins the next group of the letter;",
            "otherwise if that is less than 32 beats, it begins the next letter of the message;"
        };
        for (int bound = 0; bound < QUARTERS.length; bound++) {
            edges.sentence(sentences[bound]);
            for (int beat = 4; beat <= 20; beat++) {
                int above = (QUARTERS[bound] * beat + 3) / 4;
                String state = "set 0 " + beat + "|strike 40|strike ";
                edges.answers(state + (40 + above - 1), "strokeOf 1 2", bound);
                edges.answers(state + (40 + above), "strokeOf 1 2", bound + 1);
            }
        }
        caseIs(5, 1, 1, 1, 1, 0, 1);
        caseIs(6, 1, 1, 1, 2, 0, 0);
        caseIs(11, 1, 1, 1, 2, 0, 0);
        caseIs(12, 1, 1, 1, 3, 1, 0);
        caseIs(19, 1, 1, 1, 3, 1, 0);
        caseIs(20, 1, 1, 2, 1, 0, 0);
        caseIs(35, 1, 1, 2, 1, 0, 0);
        caseIs(36, 1, 2, 1, 1, 0, 0);
        caseIs(63, 1, 2, 1, 1, 0, 0);
        edges.sentence("otherwise it begins the next message.");
        caseIs(64, 2, 2, 1, 1, 0, 0);
        caseIs(9999, 2, 2, 1, 1, 0, 0);
        edges.answers("strike 0|strike 9999", "strokeOf 1 2", 5);
        edges.sentence("By the beat, as it is now");
        edges.answers("strike 0|strike 15|set 0 20", "strokeOf 1 2", 1);
        edges.answers("strike 0|strike 14|set 0 20", "strokeOf 1 2", 0);
        edges.answers("strike 0|strike 32|set 0 4", "strokeOf 1 2", 5);
        edges.answers("strike 0|strike 32|set 0 4|undo", "strokeOf 1 2", 3);
        // Just as much by the tolerance, the table and the times as they are now.
        edges.answers("strike 0|strike 66", "strokeOf 1 3", 0);
        edges.answers("strike 0|strike 66|set 1 3", "strokeOf 1 3", 1);
        edges.answers("strike 0|strike 66|set 1 3|set 1 2", "count 6", 0);
        edges.answers("strike 0|strike 66|set 1 3|set 1 0", "count 6", 0);
        edges.answers("ring 0|swap 0 24", "letterOf 0 0 0", 24);
        edges.answers("ring 24|ring 24|swap 0 24", "read 1", 0);
        edges.answers("strike 0|strike 5|shift 1 1", "strokeOf 1 2", 1);
        edges.answers("strike 0|strike 6|shift 1 -1", "count 4", 1);
        edges.answers("strike 0|strike 63|shift 1 1", "count 1", 2);
        edges.answers("strike 0|strike 64|shift 0 1", "count 1", 1);
    }

    /** Two strokes with a gap, by the beat of 8. */
    private static void caseIs(int gap, int messages, int letters, int groups, int count, int placed, int leftOut) {
        String state = Edges.struck(0, gap);
        edges.answers(state, "count 1", messages);
        edges.answers(state, "count 2", letters);
        edges.answers(state, "letterOf 0 0 1", groups);
        edges.answers(state, "letterOf 0 0 2", count);
        edges.answers(state, "count 5", placed);
        edges.answers(state, "count 4", leftOut);
    }

    private static void gapsPastStrokesThatAreLeftOut() {
        edges.sentence("Of each other one the gap is its time less that of the last stroke before it that was not left "
                + "out.");
        edges.eachAnswers(Edges.struck(0, 1, 5, 6, 7, 12), "strokeOf ? 1", MISSING, 1, 5, 6, 1, 6);
        edges.eachAnswers(Edges.struck(0, 1, 5, 6, 7, 12), "strokeOf ? 2", MISSING, 0, 0, 1, 0, 1);
        edges.answers(Edges.struck(0, 5, 64), "strokeOf 2 1", 64);
        edges.answers(Edges.struck(0, 5, 64), "strokeOf 2 2", 5);
        edges.answers("strike 0|strike 9999", "strokeOf 1 1", 9999);
    }

    private static void readableLetters() {
        edges.sentence("A letter is readable if it has two groups just, with counts of 1 to 5 both: it is the letter "
                + "at this row and column; otherwise it is unreadable.");
        edges.answers(Edges.beaten("11"), "letterOf 0 0 0", 0);
        edges.answers(Edges.beaten("15"), "letterOf 0 0 0", 4);
        edges.answers(Edges.beaten("51"), "letterOf 0 0 0", 20);
        edges.answers(Edges.beaten("55"), "letterOf 0 0 0", 24);
        for (String wrong : new String[] {"1", "5", "6", "61", "16", "56", "65", "66", "91", "19", "111", "555",
            "1111"}) {
            edges.answers(Edges.beaten(wrong), "letterOf 0 0 0", MISSING);
            edges.answers(Edges.beaten(wrong), "messageOf 0 1", 1);
            edges.answers(Edges.beaten(wrong), "count 3", 1);
            edges.answers(Edges.beaten(wrong), "vote 0 0", MISSING);
        }
        edges.sentence("The count of a group is how many strokes it has, with those placed.");
        // 3 strokes with one placed between each, 3 with one placed, then a group of one.
        edges.answers(Edges.struck(0, 16, 32, 56), "letterOf 0 0 2", 5);
        edges.answers(Edges.struck(0, 16, 32, 56), "letterOf 0 0 0", 20);
        edges.answers(Edges.struck(0, 16, 32, 40, 64), "letterOf 0 0 2", 6);
        edges.answers(Edges.struck(0, 16, 32, 40, 64), "letterOf 0 0 0", MISSING);
        edges.answers(Edges.struck(0, 24, 40, 56), "letterOf 0 0 3", 5);
        edges.answers(Edges.struck(0, 24, 40, 56), "letterOf 0 0 0", 4);
        edges.answers(Edges.struck(0, 24, 40, 56, 64), "letterOf 0 0 3", 6);
        edges.answers(Edges.struck(0, 24, 40, 56, 64), "letterOf 0 0 0", MISSING);
        // 160 strokes with one placed between each are one group.
        edges.answers("set 0 5|" + Edges.strokes(160), "letterOf 0 0 2", 319);
        edges.answers("set 0 5|" + Edges.strokes(160), "count 5", 159);
        edges.sentence("Messages are numbered from 0, their letters from 0, too.");
        edges.answers("strike 0|strike 64", "strokeOf 0 4", 0);
        edges.answers("strike 0|strike 64", "strokeOf 1 4", 1);
        edges.answers("strike 0|strike 36", "strokeOf 0 5", 0);
        edges.answers("strike 0|strike 36", "strokeOf 1 5", 1);
    }

    /** The beat of 20 has its bounds far from one another: 15, 30, 50, 90, 160. */
    private static void doubtfulGaps() {
        edges.sentence("A gap is doubtful if it would be of another one of these six cases, were it less, or greater, "
                + "by the tolerance");
        for (int quarters : QUARTERS) {
            int bound = quarters * 5;
            for (int tolerance = 1; tolerance <= 3; tolerance++) {
                doubtIs(20, tolerance, bound - tolerance - 1, 0);
                doubtIs(20, tolerance, bound - tolerance, 1);
                doubtIs(20, tolerance, bound - 1, 1);
                doubtIs(20, tolerance, bound, 1);
                doubtIs(20, tolerance, bound + tolerance - 1, 1);
                doubtIs(20, tolerance, bound + tolerance, 0);
            }
            doubtIs(20, 0, bound - 1, 0);
            doubtIs(20, 0, bound, 0);
        }
        // Four beats make 3, 6, 10, 18, 32; a gap of 1 less 3 is none, and too near still.
        doubtIs(4, 1, 1, 0);
        doubtIs(4, 2, 1, 1);
        doubtIs(4, 3, 1, 1);
        doubtIs(20, 3, 1, 0);
        doubtIs(4, 3, 9999, 0);
        doubtIs(5, 1, 3, 1);
        doubtIs(5, 1, 2, 0);
        doubtIs(5, 1, 4, 1);
        doubtIs(5, 1, 5, 0);
    }

    private static void doubtIs(int beat, int tolerance, int gap, int doubtful) {
        String state = "set 0 " + beat + "|set 1 " + tolerance + "|strike 0|strike " + gap;
        edges.answers(state, "strokeOf 1 3", doubtful);
        edges.answers(state, "count 6", doubtful);
    }

    private static void right(String groups, int isRight) {
        edges.answers(Edges.beaten(groups), "messageOf 0 2", isRight);
        edges.answers(Edges.beaten(groups), "count 7", isRight);
    }

    private static void rightMessages() {
        edges.sentence("A message is right if all its letters are readable, it has at least two, and the last one is "
                + "the sum of all others modulo 25 (by their numbers, as above).");
        right("11", 0);
        right("12", 0);
        right("11 11", 1);
        right("12 12", 1);
        right("55 55", 1);
        right("11 12", 0);
        // 24 + 0 is 24, 24 + 1 is 0, 24 + 24 + 1 is 24, 24 + 24 + 2 is 0.
        right("55 11 55", 1);
        right("55 12 11", 1);
        right("55 12 55", 0);
        right("55 55 12 55", 1);
        right("55 55 13 11", 1);
        right("55 55 13 12", 0);
        // An unreadable letter, which counts for nothing, at each place.
        right("61 12 12", 0);
        right("12 61 12", 0);
        right("12 12 61", 0);
        right("12 12 1", 0);
        right("12 111 12", 0);
        right("61 11", 0);
        right("11 16", 0);
        edges.answers(Edges.beaten("12 12/11 11/12"), "count 7", 2);
    }

    private static void fits(String groups, int corrections) {
        edges.answers(Edges.beaten(groups), "messageOf 0 4", corrections);
        if (corrections == 0) {
            edges.refused(Edges.beaten(groups), "correction 0 0 0", MISSING);
        } else {
            edges.answers(Edges.beaten(groups), "correction 0 " + (corrections - 1) + " 0",
                    Calls.behind(Edges.beaten(groups)).step("messageOf 0 0") - 1);
            edges.refused(Edges.beaten(groups), "correction 0 " + corrections + " 0", MISSING);
        }
    }

    private static void corrections() {
        edges.sentence("a stroke more, or one less, in one group of one letter that has two groups just, both counts "
                + "being 1 to 5 behind that.");
        // u a: only a row 6 would make it a a; c a: only a row 0; k j: only a column 0, or 6 of the second one.
        fits("51 11", 0);
        fits("13 11", 0);
        fits("31 25", 0);
        // From 2 to 1 and from 1 to 2, from 4 to 5 and from 5 to 4, in each group.
        fits("11 12", 2);
        fits("11 21", 2);
        fits("55 54", 2);
        fits("55 45", 2);
        // A letter with a count of 6 may lose one, but not with another of 6, nor in its other group.
        edges.answers(Edges.beaten("61 51"), "messageOf 0 4", 1);
        edges.eachAnswers(Edges.beaten("61 51"), "correction 0 0 ?", 0, 0, 0, 20, INVALID);
        edges.answers(Edges.beaten("16 15"), "messageOf 0 4", 1);
        edges.eachAnswers(Edges.beaten("16 15"), "correction 0 0 ?", 0, 1, 0, 4, INVALID);
        edges.answers(Edges.beaten("51 61"), "messageOf 0 4", 1);
        edges.eachAnswers(Edges.beaten("51 61"), "correction 0 0 ?", 1, 0, 0, 20, INVALID);
        edges.answers(Edges.beaten("66 55"), "messageOf 0 4", 0);
        edges.answers(Edges.beaten("71 51"), "messageOf 0 4", 0);
        edges.answers(Edges.beaten("61 61"), "messageOf 0 4", 0);
        // A letter of one group, or of three, is none that a stroke makes readable.
        edges.answers(Edges.beaten("1 11"), "messageOf 0 4", 0);
        edges.answers(Edges.beaten("111 11"), "messageOf 0 4", 0);
        edges.answers(Edges.beaten("111 61 51"), "messageOf 0 4", 0);
        edges.answers(Edges.beaten("1 11 12"), "messageOf 0 4", 0);
        edges.sentence("It fits if the message is right behind it.");
        edges.answers(Edges.beaten("11"), "messageOf 0 4", 0);
        edges.answers(Edges.beaten("61"), "messageOf 0 4", 0);
        edges.answers(Edges.beaten("12 12"), "messageOf 0 4", 0);
        // 24 + 1 is 0: y b a has none, y b b one in each of b and b.
        edges.answers(Edges.beaten("55 12 11"), "messageOf 0 4", 0);
        edges.answers(Edges.beaten("55 12 12"), "messageOf 0 4", 2);
        edges.sentence("Corrections are in order by the letter, then the group, one more ahead of one less.");
        edges.eachAnswers(Edges.beaten("12 22"), "correction 0 0 ?", 0, 0, 1, 6);
        edges.eachAnswers(Edges.beaten("12 22"), "correction 0 1 ?", 1, 0, 0, 1);
        edges.eachAnswers(Edges.beaten("33 32"), "correction 0 0 ?", 0, 1, 0, 11);
        edges.eachAnswers(Edges.beaten("33 32"), "correction 0 1 ?", 1, 1, 1, 12);
        edges.eachAnswers(Edges.beaten("22 12"), "correction 0 0 ?", 0, 0, 0, 1);
        edges.eachAnswers(Edges.beaten("22 12"), "correction 0 1 ?", 1, 0, 1, 6);
    }

    private static void voteIs(String state, int letter, int copies, int doubtful) {
        edges.eachAnswers(state, "vote 0 ?", letter, copies, doubtful, INVALID);
    }

    private static void votes() {
        edges.sentence("The vote for a place (the number of a letter) goes through the copies that have a readable "
                + "letter there: the letter that most of them have, of several the lowest one.");
        voteIs(Edges.beaten("11"), 0, 1, 0);
        voteIs(Edges.beaten("55"), 24, 1, 0);
        voteIs(Edges.beaten("61/55/66/1"), 24, 1, 0);
        voteIs(Edges.beaten("55/12/12"), 1, 2, 0);
        voteIs(Edges.beaten("12/55/55"), 24, 2, 0);
        voteIs(Edges.beaten("55/11"), 0, 1, 1);
        voteIs(Edges.beaten("11/55"), 0, 1, 1);
        // The lowest one by its number, not by its place in the table.
        voteIs("swap 0 24|" + Edges.beaten("11/55"), 0, 1, 1);
        voteIs("swap 0 24|swap 0 1|" + Edges.beaten("55/12/11"), 0, 1, 1);
        edges.sentence("The vote is doubtful if another letter has as many.");
        voteIs(Edges.beaten("55/55/11/11"), 0, 2, 1);
        voteIs(Edges.beaten("55/55/11/11/11"), 0, 3, 0);
        voteIs(Edges.beaten("11/55/55/12/12"), 1, 2, 1);
        voteIs(Edges.beaten("11/11/11/12/13/12/13"), 0, 3, 0);
        voteIs(Edges.beaten("11/12/13/13"), 2, 2, 0);
        edges.sentence("NOT_FOUND if no copy has a readable letter there.");
        edges.refused("", "vote 0 0", MISSING);
        edges.refused("", "vote 0 1", MISSING);
        edges.refused("", "vote 0 2", MISSING);
        edges.refused(Edges.beaten("1/61"), "vote 0 0", MISSING);
        edges.refused(Edges.beaten("11/11"), "vote 1 0", MISSING);
        edges.refused(Edges.beaten("11 1/11"), "vote 1 1", MISSING);
        // The letter behind a copy's last one is that of the next copy, which has none at this place.
        edges.refused(Edges.beaten("11/12 13"), "vote 2 0", MISSING);
        edges.answers(Edges.beaten("11/12 13"), "vote 1 1", 1);
    }

    private static void strokeOf() {
        edges.sentence("`what`: 0: its time; 1: its gap; 2: the case of its gap, 0 to 5, as they are told for reading; "
                + "3: 1 if its gap is doubtful, otherwise 0; 4: the message to which it belongs; 5: the letter of "
                + "this message; 6: the group of this letter, from 0");
        edges.range(Edges.BELLS, "strokeOf 25 ?", 0, 488, 6, 1);
        edges.range(Edges.FULL, "strokeOf 159 ?", 0, 2128, 6, 1);
        edges.range("strike 7", "strokeOf 0 ?", 0, 7, 6, 0);
        edges.sentence("INVALID_ARGUMENT if an argument is out of range; NOT_FOUND for 1 to 3 of the stroke 0, for 4 "
                + "to 6 if it is left out.");
        edges.range(Edges.BELLS, "strokeOf ? 0", 0, 0, 25, 488);
        edges.range(Edges.FULL, "strokeOf ? 0", 0, 0, 159, 2128);
        edges.refused("", "strokeOf 0 0", INVALID);
        edges.refused("", "strokeOf 0 1", INVALID);
        edges.refused("", "strokeOf -1 0", INVALID);
        edges.eachAnswers("strike 9", "strokeOf 0 ?", 9, MISSING, MISSING, MISSING, 0, 0, 0, INVALID);
        edges.eachAnswers("strike 9|strike 14", "strokeOf 1 ?", 14, 5, 0, 1, MISSING, MISSING, MISSING, INVALID);
        edges.eachAnswers("strike 9|strike 15", "strokeOf 1 ?", 15, 6, 1, 1, 0, 0, 0, INVALID);
        edges.eachAnswers("strike 9|strike 13", "strokeOf 1 ?", 13, 4, 0, 0, MISSING, MISSING, MISSING, INVALID);
        edges.eachAnswers("strike 9|strike 73", "strokeOf 1 ?", 73, 64, 5, 1, 1, 0, 0, INVALID);
        edges.refused("strike 9", "strokeOf 0 1", MISSING);
        edges.refused("strike 9|strike 10", "strokeOf 1 4", MISSING);
    }

    private static void messageOf() {
        edges.sentence("Returns something of a message.");
        edges.range(Edges.BELLS, "messageOf ? 0", 0, 2, 1, 3);
        edges.range(Edges.BELLS, "messageOf 0 ?", 0, 2, 6, 0);
        edges.range(Edges.FULL, "messageOf ? 0", 0, 16, 0, 16);
        edges.range(Edges.FULL, "messageOf 0 ?", 0, 16, 6, 0);
        edges.refused("", "messageOf 0 0", INVALID);
        edges.refused("", "messageOf -1 0", INVALID);
        edges.refused("", "messageOf 0 7", INVALID);
        edges.answers("set 0 4|" + manyMessages(160), "messageOf 159 5", 159);
        edges.refused("set 0 4|" + manyMessages(160), "messageOf 160 5", INVALID);
        edges.answers("set 0 4|" + manyMessages(160), "count 1", 160);
        edges.answers("set 0 4|" + manyMessages(160), "count 2", 160);
        edges.answers("set 0 4|" + manyMessages(160), "count 3", 160);
        edges.answers("set 0 4|" + manyMessages(160), "count 6", 159);
        edges.sentence("6: its doubtful gaps (that of its first stroke, too; those of strokes that are left out count "
                + "for the message of the last stroke before them that was not)");
        edges.answers("strike 0|strike 64", "messageOf 0 6", 0);
        edges.answers("strike 0|strike 64", "messageOf 1 6", 1);
        edges.answers("strike 0|strike 5|strike 64", "messageOf 0 6", 1);
        edges.answers("strike 0|strike 5|strike 64", "messageOf 1 6", 1);
        edges.answers("strike 0|strike 64|strike 69", "messageOf 1 6", 2);
        edges.answers("strike 0|strike 64|strike 68", "messageOf 1 6", 1);
        edges.sentence("5: the number of its first stroke");
        edges.answers("strike 0|strike 5|strike 64", "messageOf 1 5", 2);
        edges.answers("strike 0|strike 63|strike 127", "messageOf 1 5", 2);
    }

    /** Strokes with gaps of 32 ticks: a message each for the beat of 4. */
    private static String manyMessages(int number) {
        int[] times = new int[number];
        for (int stroke = 0; stroke < number; stroke++) {
            times[stroke] = 32 * stroke;
        }
        return Edges.struck(times);
    }

    private static void letterOf() {
        edges.sentence("Returns something of a letter of a message.");
        edges.range(Edges.BELLS, "letterOf ? 0 0", 0, 1, 1, 7);
        edges.range(Edges.BELLS, "letterOf 0 ? 0", 0, 1, 1, 6);
        edges.range(Edges.BELLS, "letterOf 1 ? 0", 0, 7, 2, 6);
        edges.range(Edges.BELLS, "letterOf 1 0 ?", 0, 7, 4, 1 << 12 | 1 << 8);
        edges.range(Edges.FULL, "letterOf 0 ? 0", 0, 24, 15, 24);
        edges.range(Edges.FULL, "letterOf 0 15 ?", 0, 24, 4, 0);
        edges.refused("", "letterOf 0 0 0", INVALID);
        edges.refused("", "letterOf 0 0 5", INVALID);
        edges.sentence("INVALID_ARGUMENT if an argument is out of range; NOT_FOUND for 0 if it is unreadable, for 3 if "
                + "it has one group, for 4 if it has not two groups just.");
        edges.eachAnswers(Edges.beaten("1"), "letterOf 0 0 ?", MISSING, 1, 1, MISSING, MISSING, INVALID);
        edges.eachAnswers(Edges.beaten("9"), "letterOf 0 0 ?", MISSING, 1, 9, MISSING, MISSING, INVALID);
        edges.eachAnswers(Edges.beaten("11"), "letterOf 0 0 ?", 0, 2, 1, 1, 1 << 5 | 1 << 1, INVALID);
        edges.eachAnswers(Edges.beaten("66"), "letterOf 0 0 ?", MISSING, 2, 6, 6, 0, INVALID);
        edges.eachAnswers(Edges.beaten("123"), "letterOf 0 0 ?", MISSING, 3, 1, 2, MISSING, INVALID);
        edges.eachAnswers(Edges.beaten("4321"), "letterOf 0 0 ?", MISSING, 4, 4, 3, MISSING, INVALID);
        edges.refused(Edges.beaten("1"), "letterOf 0 0 0", MISSING);
        edges.refused(Edges.beaten("1"), "letterOf 0 0 3", MISSING);
        edges.refused(Edges.beaten("123"), "letterOf 0 0 4", MISSING);
        edges.sentence("If there is no stroke, message or letter of a message with a certain number, this is "
                + "INVALID_ARGUMENT.");
        edges.refused("strike 0", "strokeOf 1 0", INVALID);
        edges.refused("strike 0", "mute 1", INVALID);
        edges.refused("strike 0", "shift 1 1", INVALID);
        edges.refused("strike 0", "messageOf 1 0", INVALID);
        edges.refused("strike 0", "letterOf 1 0 0", INVALID);
        edges.refused("strike 0", "letterOf 0 1 0", INVALID);
        edges.refused("strike 0", "letterOf 0 1 3", INVALID);
        edges.refused("strike 0", "correction 1 0 0", INVALID);
        edges.refused(Edges.beaten("11/11 11"), "letterOf 0 1 0", INVALID);
        edges.refused(Edges.beaten("11 11/11"), "letterOf 1 1 0", INVALID);
    }

    private static void lettersWithOneMore() {
        edges.sentence("4: the letters that it would be with one stroke more in one of its two groups, as a set (not "
                + "its own letter)");
        edges.answers(Edges.beaten("44"), "letterOf 0 0 4", 1 << 23 | 1 << 19);
        edges.answers(Edges.beaten("54"), "letterOf 0 0 4", 1 << 24);
        edges.answers(Edges.beaten("45"), "letterOf 0 0 4", 1 << 24);
        edges.answers(Edges.beaten("55"), "letterOf 0 0 4", 0);
        edges.answers(Edges.beaten("15"), "letterOf 0 0 4", 1 << 9);
        edges.answers(Edges.beaten("51"), "letterOf 0 0 4", 1 << 21);
        edges.answers(Edges.beaten("61"), "letterOf 0 0 4", 0);
        edges.answers(Edges.beaten("16"), "letterOf 0 0 4", 0);
        edges.answers(Edges.beaten("65"), "letterOf 0 0 4", 0);
        edges.sentence("Sets are told as bits: bit k is for number k.");
        edges.answers("swap 0 1|" + Edges.beaten("11"), "letterOf 0 0 4", 1 << 5 | 1);
        edges.answers("swap 0 24|" + Edges.beaten("54"), "letterOf 0 0 4", 1);
        edges.answers("swap 1 24|" + Edges.beaten("11"), "letterOf 0 0 4", 1 << 24 | 1 << 5);
    }

    private static void correction() {
        edges.sentence("`index`: 0 for the first one, and so on");
        edges.answers(Edges.BELLS, "correction 0 0 0", 0);
        edges.answers(Edges.BELLS, "correction 0 1 0", 1);
        edges.refusedBelow(Edges.BELLS, "correction 0 ? 0", 0);
        edges.refusedBelow(Edges.BELLS, "correction 1 ? 0", 0);
        edges.sentence("INVALID_ARGUMENT if an argument is out of range or negative; NOT_FOUND if there are not so "
                + "many.");
        edges.refused(Edges.BELLS, "correction 0 2 0", MISSING);
        edges.refused(Edges.BELLS, "correction 0 2147483647 0", MISSING);
        edges.refused(Edges.BELLS, "correction 0 2147483647 3", MISSING);
        edges.range(Edges.BELLS, "correction ? 0 0", 0, 0, 1, MISSING);
        edges.range(Edges.BELLS, "correction 0 1 ?", 0, 1, 3, 1);
        edges.range(Edges.BELLS, "correction 1 0 ?", 0, MISSING, 3, MISSING);
        edges.refused("", "correction 0 0 0", INVALID);
        edges.refused("", "correction 0 0 4", INVALID);
        edges.range(Edges.FULL, "correction ? 0 0", 0, MISSING, 0, MISSING);
    }

    private static void vote() {
        edges.sentence("INVALID_ARGUMENT if place is negative or what is out of range;");
        edges.answers(Edges.BELLS, "vote 0 0", 1);
        edges.answers(Edges.BELLS, "vote 2 0", 6);
        for (String tower : new String[] {"", Edges.BELLS, Edges.FULL}) {
            edges.refusedBelow(tower, "vote ? 0", 0);
            edges.refusedBelow(tower, "vote 0 ?", 0);
            edges.refusedAbove(tower, "vote 0 ?", 2);
            edges.refusedAbove(tower, "vote 99 ?", 2);
            edges.refused(tower, "vote -1 -1", INVALID);
        }
        edges.range(Edges.BELLS, "vote 0 ?", 0, 1, 2, 1);
        edges.answers(Edges.FULL, "vote 15 0", 24);
        edges.refused(Edges.FULL, "vote 16 0", MISSING);
        edges.refused(Edges.FULL, "vote 2147483647 0", MISSING);
        edges.refused(Edges.BELLS, "vote 3 0", MISSING);
        edges.refused("", "vote 2147483647 2", MISSING);
    }

    /** What read answers from -1 on; behind the last of these there is nothing. */
    private static void readIs(String state, int... wants) {
        for (int place = -1; place < wants.length - 1; place++) {
            edges.answers(state, "read " + place, wants[place + 1]);
        }
        edges.refused(state, "read " + (wants.length - 1), MISSING);
        edges.refused(state, "read " + wants.length, MISSING);
        edges.refused(state, "read 2147483647", MISSING);
    }

    private static void read() {
        edges.sentence("INVALID_ARGUMENT if place is below -1; NOT_FOUND if there are not so many letters, for -1 if "
                + "there are no strokes.");
        for (String tower : new String[] {"", Edges.BELLS, Edges.FULL}) {
            edges.refusedBelow(tower, "read ?", -1);
        }
        edges.refused("", "read -1", MISSING);
        edges.refused("", "read 0", MISSING);
        edges.refused("", "read 2147483647", MISSING);
        edges.refused("strike 0|mute 0", "read -1", MISSING);
        readIs("strike 0", 2);
        readIs(Edges.BELLS, 0, 7, 24, 6);
        readIs(Edges.beaten("61 51"), 1, 20, 20);
        readIs(Edges.beaten("11"), 2, 0);
    }

    private static void readInOrder() {
        edges.sentence("the message that is right with the lowest number;");
        readIs(Edges.beaten("12 12/11 11"), 0, 1, 1);
        readIs(Edges.beaten("11 12/13 13/11 11"), 0, 2, 2);
        readIs(Edges.beaten("61 51/13 13"), 0, 2, 2);
        readIs(Edges.beaten("13/13/13 11 13/12 12"), 0, 2, 0, 2);
        edges.sentence("if none is right, the first one that has just one correction that fits, corrected;");
        readIs(Edges.beaten("61 51/16 15"), 1, 20, 20);
        readIs(Edges.beaten("16 15/61 51"), 1, 4, 4);
        readIs(Edges.beaten("51 61"), 1, 20, 20);
        // The first one has two corrections, the second one none.
        readIs(Edges.beaten("11 12/55 11/16 15"), 1, 4, 4);
        edges.sentence("if there is none of these either, the votes for all places from 0 on, as long as there is "
                + "one.");
        readIs(Edges.beaten("11 12"), 2, 0, 1);
        readIs(Edges.beaten("11 12/11 12 55/13"), 2, 0, 1, 24);
        readIs(Edges.beaten("1"), 2);
        readIs(Edges.beaten("61"), 2);
        // There is a vote for 1, and for 2, but none for the places ahead of them.
        readIs(Edges.beaten("1 11"), 2);
        edges.answers(Edges.beaten("1 11"), "vote 1 0", 0);
        readIs(Edges.beaten("13 1 11"), 2, 2);
        edges.answers(Edges.beaten("13 1 11"), "vote 2 0", 0);
    }
}
