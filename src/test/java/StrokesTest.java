/** Promises 4 (ring), 5 (pause), 6 (strike), 7 (mute) and 8 (shift). */
public final class StrokesTest {
    private static final Due due = new Due();
    private static final int INVALID = -1000001;
    private static final int IMPOSSIBLE = -1000002;
    private static final int LIMIT = -1000003;

    public static void main(String[] args) {
        ring();
        ringBehindStrokes();
        ringWithoutRoom();
        ringTooLate();
        pause();
        strike();
        strikeWithoutRoom();
        mute();
        shift();
        shiftWrong();
        due.end();
    }

    private static void times(String when, BellWords x, int... times) {
        due.is(when + ": count(0)", x.count(0), times.length);
        for (int stroke = 0; stroke < times.length; stroke++) {
            due.is(when + ": strokeOf(" + stroke + ", 0)", x.strokeOf(stroke, 0), times[stroke]);
        }
    }

    private static void ring() {
        BellWords x = new BellWords();
        due.is("ring(7)", x.ring(7), 0);
        times("row 2, column 3", x, 0, 8, 32, 40, 48);
        due.is("ring(20)", x.ring(20), 5);
        times("row 5, column 1", x, 0, 8, 32, 40, 48, 96, 104, 112, 120, 128, 152);
        due.is("ring(-1)", x.ring(-1), INVALID);
        due.is("ring(25)", x.ring(25), INVALID);
        due.is("ring(least)", x.ring(Integer.MIN_VALUE), INVALID);
        due.is("ring(most)", x.ring(Integer.MAX_VALUE), INVALID);
        due.is("count(10)", x.count(10), 2);
        due.is("set(0, 5)", x.set(0, 5), 8);
        due.is("ring(0)", x.ring(0), 11);
        due.is("by the beat of 5", x.strokeOf(11, 0), 182);
        due.is("by the beat of 5", x.strokeOf(12, 0), 197);
        for (int letter = 0; letter < 25; letter++) {
            BellWords y = new BellWords();
            y.ring(letter);
            due.is("strokes of " + letter, y.count(0), letter / 5 + letter % 5 + 2);
            due.is(letter + " is read", y.letterOf(0, 0, 0), letter);
        }
    }

    private static void ringBehindStrokes() {
        BellWords x = Due.struck(100, 103);
        due.is("ring(0) behind a stroke that is left out", x.ring(0), 2);
        times("behind it", x, 100, 103, 151, 175);
        x.pause();
        due.is("ring(0) with the pause", x.ring(0), 4);
        times("12 beats", x, 100, 103, 151, 175, 271, 295);
        due.is("the pause is taken away", x.count(8), 0);
        due.is("ring(0)", x.ring(0), 6);
        due.is("6 beats again", x.strokeOf(6, 0), 343);
        BellWords y = Due.struck(50);
        y.pause();
        y.mute(0);
        due.is("the pause stays without strokes", y.count(8), 1);
        due.is("ring(0) with the pause, without strokes", y.ring(0), 0);
        times("at 0", y, 0, 24);
        due.is("the pause is taken away there, too", y.count(8), 0);
    }

    private static void ringWithoutRoom() {
        BellWords x = new BellWords();
        x.set(0, 4);
        for (int i = 0; i < 15; i++) {
            due.is("ring(24)", x.ring(24), 10 * i);
        }
        due.is("ring(23)", x.ring(23), 150);
        due.is("159 strokes", x.count(0), 159);
        x.pause();
        due.is("ring(0) at 159", x.ring(0), LIMIT);
        due.is("the pause stays", x.count(8), 1);
        due.is("159 stay", x.count(0), 159);
        due.is("ring(25) at 159", x.ring(25), INVALID);
        x.mute(158);
        due.is("ring(0) at 158", x.ring(0), 158);
        due.is("160 strokes", x.count(0), 160);
        due.is("ring(0) at 160", x.ring(0), LIMIT);
    }

    private static void ringTooLate() {
        // The letter 24 comes 6 beats behind the last one and takes 11 beats: 136 ticks in all.
        BellWords x = Due.struck(9863);
        due.is("ring(24) up to 9999", x.ring(24), 1);
        due.is("count(9)", x.count(9), 9999);
        BellWords y = Due.struck(9864);
        due.is("ring(24) up to 10000", y.ring(24), LIMIT);
        due.is("nothing is rung", y.count(0), 1);
        due.is("no state is recorded", y.count(10), 1);
        due.is("ring(0) is possible there", y.ring(0), 1);
        BellWords z = Due.struck(9863);
        z.pause();
        due.is("ring(24) with the pause is too late", z.ring(24), LIMIT);
        due.is("ring(0) with the pause", z.ring(0), 1);
        due.is("its end", z.count(9), 9863 + 96 + 24);
    }

    private static void pause() {
        BellWords x = new BellWords();
        due.is("pause() without strokes", x.pause(), IMPOSSIBLE);
        due.is("it is not set", x.count(8), 0);
        x.ring(0);
        due.is("pause()", x.pause(), 2);
        due.is("it is set", x.count(8), 1);
        due.is("pause() again", x.pause(), IMPOSSIBLE);
        due.is("count(10)", x.count(10), 2);
        x.strike(1000);
        due.is("a stroke besides leaves it", x.count(8), 1);
        x.mute(2);
        due.is("a muted one, too", x.count(8), 1);
        x.shift(1, 2);
        due.is("a late one, too", x.count(8), 1);
        due.is("undo()", x.undo(), 3);
        due.is("undo()", x.undo(), 2);
        due.is("undo()", x.undo(), 1);
        due.is("still", x.count(8), 1);
        due.is("undo()", x.undo(), 0);
        due.is("it is restored", x.count(8), 0);
    }

    private static void strike() {
        BellWords x = new BellWords();
        due.is("strike(9999)", x.strike(9999), 0);
        due.is("strike(0)", x.strike(0), 0);
        due.is("strike(500)", x.strike(500), 1);
        due.is("strike(501)", x.strike(501), 2);
        due.is("strike(499)", x.strike(499), 1);
        times("by their times", x, 0, 499, 500, 501, 9999);
        due.is("strike(500) again", x.strike(500), IMPOSSIBLE);
        due.is("strike(0) again", x.strike(0), IMPOSSIBLE);
        due.is("strike(9999) again", x.strike(9999), IMPOSSIBLE);
        due.is("strike(-1)", x.strike(-1), INVALID);
        due.is("strike(10000)", x.strike(10000), INVALID);
        due.is("strike(most)", x.strike(Integer.MAX_VALUE), INVALID);
        due.is("strike(least)", x.strike(Integer.MIN_VALUE), INVALID);
        due.is("count(0)", x.count(0), 5);
    }

    private static void strikeWithoutRoom() {
        BellWords x = new BellWords();
        for (int i = 0; i < 160; i++) {
            due.is("strike(" + 10 * i + ")", x.strike(10 * i), i);
        }
        due.is("a 161st one", x.strike(5), LIMIT);
        due.is("one that is there", x.strike(10), IMPOSSIBLE);
        due.is("one out of range", x.strike(-5), INVALID);
        due.is("shift in a full tower", x.shift(159, -5), 159);
        due.is("mute(0)", x.mute(0), 0);
        due.is("room again", x.strike(5), 0);
    }

    private static void mute() {
        BellWords x = Due.struck(10, 20, 30);
        due.is("mute(1)", x.mute(1), 20);
        times("without it", x, 10, 30);
        due.is("mute(2)", x.mute(2), INVALID);
        due.is("mute(-1)", x.mute(-1), INVALID);
        due.is("mute(most)", x.mute(Integer.MAX_VALUE), INVALID);
        due.is("mute(1)", x.mute(1), 30);
        due.is("mute(0)", x.mute(0), 10);
        due.is("mute(0) without strokes", x.mute(0), INVALID);
        due.is("undo()", x.undo(), 3);
        times("restored", x, 10);
    }

    private static void shift() {
        BellWords x = Due.struck(100, 110, 120);
        due.is("shift(0, 15)", x.shift(0, 15), 1);
        times("past one", x, 110, 115, 120);
        due.is("shift(2, -99)", x.shift(2, -99), 0);
        times("to the first place", x, 21, 110, 115);
        due.is("shift(0, 99)", x.shift(0, 99), 2);
        times("to the last place", x, 110, 115, 120);
        due.is("shift(1, 1)", x.shift(1, 1), 1);
        times("by one", x, 110, 116, 120);
        BellWords y = Due.struck(99, 9900);
        due.is("down to 0", y.shift(0, -99), 0);
        due.is("up to 9999", y.shift(1, 99), 1);
        times("the ends", y, 0, 9999);
        due.is("below 0", y.shift(0, -1), IMPOSSIBLE);
        due.is("above 9999", y.shift(1, 1), IMPOSSIBLE);
        times("nothing is changed", y, 0, 9999);
        due.is("count(10)", y.count(10), 4);
    }

    private static void shiftWrong() {
        BellWords x = Due.struck(50, 60);
        due.is("onto another", x.shift(0, 10), IMPOSSIBLE);
        due.is("onto another", x.shift(1, -10), IMPOSSIBLE);
        due.is("by 0", x.shift(0, 0), INVALID);
        due.is("by 100", x.shift(0, 100), INVALID);
        due.is("by -100", x.shift(1, -100), INVALID);
        due.is("by the most", x.shift(0, Integer.MAX_VALUE), INVALID);
        due.is("by the least", x.shift(0, Integer.MIN_VALUE), INVALID);
        due.is("stroke 2", x.shift(2, 1), INVALID);
        due.is("stroke -1", x.shift(-1, 1), INVALID);
        due.is("count(10)", x.count(10), 2);
        times("nothing is changed", x, 50, 60);
    }
}
