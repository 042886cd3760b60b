import java.util.ArrayList;
import java.util.List;

/**
 * All that an object answers behind some calls. As an object serves 512 calls, each group of questions is put to an
 * object of its own.
 */
final class Snapshot {
    private static final int GROUPS = 11;
    private static final int STROKES_AT_ONCE = 40;

    private final List<String> answers = new ArrayList<>();
    private Calls calls;

    /** What is answered behind a recipe, and behind one more step of it that may be refused ("" if there is none). */
    static List<String> behind(String recipe, String step) {
        Snapshot snapshot = new Snapshot();
        for (int group = 0; group < GROUPS; group++) {
            snapshot.calls = Calls.behind(recipe);
            if (!step.isEmpty()) {
                snapshot.calls.step(step);
            }
            snapshot.ask(group);
        }
        return snapshot.answers;
    }

    private int note(String name, int... with) {
        int answer = calls.call(name, with);
        StringBuilder line = new StringBuilder(name);
        for (int number : with) {
            line.append(' ').append(number);
        }
        answers.add(line.append(" = ").append(answer).toString());
        return answer;
    }

    private void ask(int group) {
        switch (group) {
            case 0:
                counts();
                table();
                votes();
                break;
            case 1:
                messages();
                break;
            case 2:
                goBack(false);
                break;
            case 3:
                goBack(true);
                break;
            case 4:
                note("play");
                counts();
                times();
                break;
            case 5:
                text();
                break;
            case 6:
                // What the next letter does shows the pause, the beat and the table.
                note("ring", 7);
                counts();
                times();
                break;
            default:
                strokes((group - 7) * STROKES_AT_ONCE);
                break;
        }
    }

    private void counts() {
        for (int what = 0; what <= 11; what++) {
            note("count", what);
        }
        note("count", 20);
        note("count", 21);
        note("fault", 0);
        note("fault", 1);
    }

    private void table() {
        for (int letter = 0; letter < 25; letter++) {
            note("tableOf", letter);
        }
    }

    private void votes() {
        for (int place = -1; place < 17; place++) {
            note("read", place);
        }
        for (int place = 0; place < 17; place++) {
            for (int what = 0; what < 3; what++) {
                note("vote", place, what);
            }
        }
    }

    private void times() {
        int strokes = calls.call("count", 0);
        for (int stroke = 0; stroke < strokes && stroke < 30; stroke++) {
            note("strokeOf", stroke, 0);
        }
        note("strokeOf", strokes - 1, 0);
    }

    private void strokes(int first) {
        for (int stroke = first; stroke < first + STROKES_AT_ONCE; stroke++) {
            for (int what = 0; what < 7; what++) {
                note("strokeOf", stroke, what);
            }
        }
    }

    private void messages() {
        for (int message = 0; message < 3; message++) {
            for (int what = 0; what < 7; what++) {
                note("messageOf", message, what);
            }
            for (int place = 0; place < 5; place++) {
                for (int what = 0; what < 5; what++) {
                    note("letterOf", message, place, what);
                }
            }
            for (int index = 0; index < 3; index++) {
                for (int what = 0; what < 4; what++) {
                    note("correction", message, index, what);
                }
            }
        }
    }

    /** Through all states of the history, one more than it may have, with their tables or with all else. */
    private void goBack(boolean withTables) {
        for (int times = 0; times <= 5; times++) {
            if (withTables) {
                table();
            } else {
                counts();
                times();
            }
            note("undo");
        }
    }

    /** What is typed behind it shows where the text ends. */
    private void text() {
        for (char sign : ";+9998;=".toCharArray()) {
            note("type", sign);
            note("fault", 0);
            note("fault", 1);
        }
        note("clearText");
        note("count", 11);
    }
}
