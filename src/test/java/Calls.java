/**
 * Makes calls by their names on one object, and sees to it that they are no more than the document promises.
 * A recipe is a run of calls as one text: "ring 7|shift 0 -3|text =a;/;", where text types each sign behind it.
 */
final class Calls {
    static final int MOST = 512;
    /** The error with the greatest number: no answer that is none is as low. */
    private static final int GREATEST_ERROR = -1000001;

    private final BellWords bells = new BellWords();
    private int made = 0;

    /** An object behind a recipe of which no call may be refused: a test that meant another state would show here. */
    static Calls behind(String recipe) {
        Calls calls = new Calls();
        if (!recipe.isEmpty()) {
            for (String step : recipe.split("\\|")) {
                if (calls.step(step) <= GREATEST_ERROR) {
                    throw new IllegalStateException(step + " is refused in " + recipe);
                }
            }
        }
        return calls;
    }

    /** One step of a recipe: the answer to it, for a text that to its last sign. */
    int step(String step) {
        if (step.startsWith("text ")) {
            int length = 0;
            for (char sign : step.substring(5).toCharArray()) {
                length = call("type", sign);
            }
            return length;
        }
        String[] words = step.split(" ");
        int[] with = new int[words.length - 1];
        for (int i = 0; i < with.length; i++) {
            with[i] = Integer.parseInt(words[i + 1]);
        }
        return call(words[0], with);
    }

    /** Numbers that the call has no use for may stand behind those that it has. */
    int call(String name, int... with) {
        made++;
        if (made > MOST) {
            throw new IllegalStateException("more than " + MOST + " calls of one object");
        }
        switch (name) {
            case "set": return bells.set(with[0], with[1]);
            case "swap": return bells.swap(with[0], with[1]);
            case "ring": return bells.ring(with[0]);
            case "pause": return bells.pause();
            case "strike": return bells.strike(with[0]);
            case "mute": return bells.mute(with[0]);
            case "shift": return bells.shift(with[0], with[1]);
            case "strokeOf": return bells.strokeOf(with[0], with[1]);
            case "messageOf": return bells.messageOf(with[0], with[1]);
            case "letterOf": return bells.letterOf(with[0], with[1], with[2]);
            case "correction": return bells.correction(with[0], with[1], with[2]);
            case "vote": return bells.vote(with[0], with[1]);
            case "read": return bells.read(with[0]);
            case "tableOf": return bells.tableOf(with[0]);
            case "count": return bells.count(with[0]);
            case "undo": return bells.undo();
            case "type": return bells.type(with[0]);
            case "clearText": return bells.clearText();
            case "fault": return bells.fault(with[0]);
            case "play": return bells.play();
            default: throw new IllegalArgumentException(name);
        }
    }
}
