import java.io.IOException;
import java.nio.file.Files;
import java.nio.file.Path;
import java.util.HashMap;
import java.util.List;
import java.util.Map;

/** Tests of the document's sentences, each under its words, with states that are told as recipes (see Calls). */
final class Edges {
    static final int INVALID = -1000001;
    static final int IMPOSSIBLE = -1000002;
    static final int LIMIT = -1000003;
    static final int MISSING = -1000004;

    static final String EMPTY = "";
    /** b g, a pause, h y g: 26 strokes from 0 to 488, four states and a text with a fault at 3. */
    static final String BELLS = "ring 1|ring 6|pause|ring 7|ring 24|ring 6|text =a;-99;";
    /** 160 strokes from 0 to 2128, one state, no text. */
    static final String FULL = "text =yyyyyyyyyyyyyyyy;|play|clearText";
    static final String FULL_HISTORY = "strike 0|strike 100|strike 200|strike 300";
    static final String FULL_TEXT = "text +5;-0;/;/;/;/;/;/;/;/;/;/;/;/;/;/;/;/;/;/;/;/;/;/;/;/;/;/;/;";

    private final Due due = new Due();
    private final String document = wordsOfDocument();
    private final Map<String, List<String>> known = new HashMap<>();
    private String sentence = "";
    private int asked = 1;

    /** The checks that follow are those of this sentence, which must stand in the document. */
    void sentence(String words) {
        due.is("checks of: " + sentence, asked > 0 ? 1 : 0, 1);
        boolean stands = document.isEmpty() || document.contains(words.replaceAll("\\s+", " "));
        due.is("stands in the document: " + words, stands ? 1 : 0, 1);
        sentence = words;
        asked = 0;
    }

    /** The document with single blanks; empty, so that its words go unchecked, where it can't be read. */
    private static String wordsOfDocument() {
        try {
            return Files.readString(Path.of("../shared/DOC.md")).replaceAll("\\s+", " ");
        } catch (IOException missing) {
            System.out.println("the document can't be read: " + missing);
            return "";
        }
    }

    void answers(String state, String call, int want) {
        asked++;
        due.is(sentence + " [" + state + "] " + call, Calls.behind(state).step(call), want);
    }

    /** The answers of several calls behind one state, each on an object of its own. */
    void eachAnswers(String state, String call, int... wants) {
        for (int number = 0; number < wants.length; number++) {
            answers(state, call.replace("?", String.valueOf(number)), wants[number]);
        }
    }

    /** The call answers an error, and behind it everything is answered as if it had not been made. */
    void refused(String state, String call, int error) {
        answers(state, call, error);
        List<String> before = known.computeIfAbsent(state, recipe -> Snapshot.behind(recipe, ""));
        List<String> then = Snapshot.behind(state, call);
        for (int line = 0; line < before.size(); line++) {
            if (!then.get(line).equals(before.get(line))) {
                due.is(sentence + " [" + state + "] " + call + " has changed " + before.get(line) + " to "
                        + then.get(line), 1, 0);
                return;
            }
        }
    }

    /** The numbers that stand for "?": the ends of the range are answered so, those beyond them are refused. */
    void range(String state, String call, int least, int atLeast, int most, int atMost) {
        answers(state, call.replace("?", String.valueOf(least)), atLeast);
        answers(state, call.replace("?", String.valueOf(most)), atMost);
        refusedBelow(state, call, least);
        refusedAbove(state, call, most);
    }

    void refusedBelow(String state, String call, int least) {
        refused(state, call.replace("?", String.valueOf(least - 1)), INVALID);
        refused(state, call.replace("?", String.valueOf(Integer.MIN_VALUE)), INVALID);
    }

    void refusedAbove(String state, String call, int most) {
        refused(state, call.replace("?", String.valueOf(most + 1)), INVALID);
        refused(state, call.replace("?", String.valueOf(Integer.MAX_VALUE)), INVALID);
    }

    void end() {
        sentence("");
        due.end();
    }

    static String struck(int... times) {
        StringBuilder recipe = new StringBuilder();
        for (int time : times) {
            recipe.append(recipe.length() == 0 ? "" : "|").append("strike ").append(time);
        }
        return recipe.toString();
    }

    /** So many strokes, at 0, 10, 20 and so on. */
    static String strokes(int number) {
        int[] times = new int[number];
        for (int stroke = 0; stroke < number; stroke++) {
            times[stroke] = 10 * stroke;
        }
        return struck(times);
    }

    /**
     * Strokes by the counts of their groups, a digit for each, by the beat of 8: "12 5/61" is a letter of the counts
     * 1 and 2, one of one group, and another message of a letter of the counts 6 and 1.
     */
    static String beaten(String groups) {
        StringBuilder recipe = new StringBuilder();
        int time = 0;
        int gap = 0;
        for (char sign : groups.toCharArray()) {
            if (sign == ' ' || sign == '/') {
                gap = sign == ' ' ? 48 : 96;
                continue;
            }
            for (int stroke = 0; stroke < sign - '0'; stroke++) {
                time += gap;
                recipe.append(recipe.length() == 0 ? "" : "|").append("strike ").append(time);
                gap = 8;
            }
            gap = 24;
        }
        return recipe.toString();
    }
}
