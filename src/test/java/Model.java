import java.util.ArrayDeque;
import java.util.ArrayList;
import java.util.Arrays;
import java.util.Deque;
import java.util.List;
import java.util.TreeMap;
import java.util.TreeSet;
import java.util.regex.Matcher;
import java.util.regex.Pattern;

/**
 * The document once more, told with lists and sets and worked out anew for each question: slow, and
 * written without a look at the class, so that the two are unlikely to share a mistake.
 */
final class Model {
    static final int INVALID = -1000001;
    static final int IMPOSSIBLE = -1000002;
    static final int LIMIT = -1000003;
    static final int MISSING = -1000004;

    private static final class State {
        TreeSet<Integer> times = new TreeSet<>();
        List<Integer> table = new ArrayList<>();
        int beat = 8;
        int tolerance = 1;
        boolean pause = false;

        State copy() {
            State other = new State();
            other.times.addAll(times);
            other.table.addAll(table);
            other.beat = beat;
            other.tolerance = tolerance;
            other.pause = pause;
            return other;
        }
    }

    private static final class Message {
        final List<List<Integer>> letters = new ArrayList<>();
        int first;
        int placed;
        int doubtful;
    }

    private static final class Stroke {
        int time;
        int gap = MISSING;
        int itsCase = MISSING;
        int doubtful = MISSING;
        int message = MISSING;
        int letter = MISSING;
        int group = MISSING;
    }

    private State now = new State();
    private final Deque<State> history = new ArrayDeque<>();
    private String text = "";
    private List<Message> messages;
    private List<Stroke> strokes;

    Model() {
        for (int letter = 0; letter < 25; letter++) {
            now.table.add(letter);
        }
    }

    int call(String name, int a, int b, int c) {
        readAll();
        switch (name) {
            case "set": return set(a, b);
            case "swap": return swap(a, b);
            case "ring": return ringOne(a);
            case "pause": return pause();
            case "strike": return strike(a);
            case "mute": return mute(a);
            case "shift": return shift(a, b);
            case "strokeOf": return strokeOf(a, b);
            case "messageOf": return messageOf(a, b);
            case "letterOf": return letterOf(a, b, c);
            case "correction": return correction(a, b, c);
            case "vote": return vote(a, b);
            case "read": return read(a);
            case "tableOf": return a < 0 || a > 24 ? INVALID : place(now, a);
            case "count": return count(a);
            case "undo": return undo();
            case "type": return type(a);
            case "clearText": int had = text.length(); text = ""; return had;
            case "fault": return fault(a);
            case "play": return play();
            default: throw new IllegalArgumentException(name);
        }
    }

    private void remember() {
        history.addLast(now.copy());
        while (history.size() > 4) {
            history.removeFirst();
        }
    }

    private static int place(State s, int letter) {
        int cell = s.table.get(letter);
        return 10 * (cell / 5 + 1) + cell % 5 + 1;
    }

    private int set(int what, int value) {
        if (what == 0 && 4 <= value && value <= 20) {
            int was = now.beat;
            remember();
            now.beat = value;
            return was;
        }
        if (what == 1 && 0 <= value && value <= 3) {
            int was = now.tolerance;
            remember();
            now.tolerance = value;
            return was;
        }
        return INVALID;
    }

    private int swap(int one, int other) {
        if (one < 0 || one > 24 || other < 0 || other > 24 || one == other) {
            return INVALID;
        }
        remember();
        Integer first = now.table.get(one);
        now.table.set(one, now.table.get(other));
        now.table.set(other, first);
        return place(now, one);
    }

    /** The state with a letter rung, or null if there is no room. */
    private static State rung(State s, int letter) {
        State then = s.copy();
        int time = 0;
        if (!then.times.isEmpty()) {
            time = then.times.last() + (then.pause ? 12 : 6) * then.beat;
        }
        int rows = place(s, letter) / 10;
        int columns = place(s, letter) % 10;
        for (int i = 0; i < rows; i++) {
            then.times.add(time);
            time += then.beat;
        }
        time += 2 * then.beat;
        for (int i = 0; i < columns; i++) {
            then.times.add(time);
            time += then.beat;
        }
        then.pause = false;
        return then.times.size() > 160 || then.times.last() > 9999 ? null : then;
    }

    private int ringOne(int letter) {
        if (letter < 0 || letter > 24) {
            return INVALID;
        }
        State then = rung(now, letter);
        if (then == null) {
            return LIMIT;
        }
        int number = now.times.size();
        remember();
        now = then;
        return number;
    }

    private int pause() {
        if (now.pause || now.times.isEmpty()) {
            return IMPOSSIBLE;
        }
        remember();
        now.pause = true;
        return now.times.size();
    }

    private int strike(int time) {
        if (time < 0 || time > 9999) {
            return INVALID;
        }
        if (now.times.contains(time)) {
            return IMPOSSIBLE;
        }
        if (now.times.size() == 160) {
            return LIMIT;
        }
        remember();
        now.times.add(time);
        return now.times.headSet(time).size();
    }

    private int mute(int stroke) {
        if (stroke < 0 || stroke >= now.times.size()) {
            return INVALID;
        }
        remember();
        int time = strokes.get(stroke).time;
        now.times.remove(time);
        return time;
    }

    private int shift(int stroke, int ticks) {
        if (stroke < 0 || stroke >= now.times.size() || ticks < -99 || ticks > 99 || ticks == 0) {
            return INVALID;
        }
        int was = strokes.get(stroke).time;
        int time = was + ticks;
        if (time < 0 || time > 9999 || now.times.contains(time)) {
            return IMPOSSIBLE;
        }
        remember();
        now.times.remove(was);
        now.times.add(time);
        return now.times.headSet(time).size();
    }

    private int kind(int gap) {
        double beats = (double) gap / now.beat;
        double[] bounds = {0.75, 1.5, 2.5, 4.5, 8};
        int kind = 0;
        while (kind < 5 && beats >= bounds[kind]) {
            kind++;
        }
        return kind;
    }

    private boolean isDoubtful(int gap) {
        for (int by = 1; by <= now.tolerance; by++) {
            if (kind(gap - by) != kind(gap) || kind(gap + by) != kind(gap)) {
                return true;
            }
        }
        return false;
    }

    private void readAll() {
        messages = new ArrayList<>();
        strokes = new ArrayList<>();
        int before = 0;
        for (int time : now.times) {
            Stroke s = new Stroke();
            s.time = time;
            int kind = 5;
            if (!strokes.isEmpty()) {
                s.gap = time - before;
                kind = kind(s.gap);
                s.itsCase = kind;
                s.doubtful = isDoubtful(s.gap) ? 1 : 0;
            }
            if (kind == 5) {
                Message m = new Message();
                m.first = strokes.size();
                messages.add(m);
            }
            strokes.add(s);
            Message m = messages.get(messages.size() - 1);
            if (s.doubtful == 1) {
                m.doubtful++;
            }
            if (kind == 0) {
                continue;
            }
            before = time;
            if (kind >= 4) {
                m.letters.add(new ArrayList<>());
            }
            List<Integer> letter = m.letters.get(m.letters.size() - 1);
            if (kind >= 3) {
                letter.add(0);
            }
            if (kind == 2) {
                m.placed++;
            }
            int group = letter.size() - 1;
            letter.set(group, letter.get(group) + (kind == 2 ? 2 : 1));
            s.message = messages.size() - 1;
            s.letter = m.letters.size() - 1;
            s.group = group;
        }
    }

    /** The letter with these counts, or -1. */
    private int letter(List<Integer> counts) {
        if (counts.size() != 2) {
            return -1;
        }
        for (int letter = 0; letter < 25; letter++) {
            if (place(now, letter) == 10 * counts.get(0) + counts.get(1) && counts.get(1) < 10) {
                return letter;
            }
        }
        return -1;
    }

    private List<Integer> lettersOf(List<List<Integer>> counts) {
        List<Integer> found = new ArrayList<>();
        for (List<Integer> groups : counts) {
            found.add(letter(groups));
        }
        return found;
    }

    private static boolean right(List<Integer> letters) {
        if (letters.size() < 2 || letters.contains(-1)) {
            return false;
        }
        int sum = 0;
        for (int letter : letters.subList(0, letters.size() - 1)) {
            sum += letter;
        }
        return sum % 25 == letters.get(letters.size() - 1);
    }

    private List<int[]> fitting(Message m) {
        List<int[]> found = new ArrayList<>();
        for (int place = 0; place < m.letters.size(); place++) {
            for (int group = 0; group < 2 && m.letters.get(place).size() == 2; group++) {
                for (int more = 1; more >= -1; more -= 2) {
                    List<List<Integer>> changed = new ArrayList<>(m.letters);
                    List<Integer> counts = new ArrayList<>(m.letters.get(place));
                    counts.set(group, counts.get(group) + more);
                    changed.set(place, counts);
                    if (letter(counts) >= 0 && right(lettersOf(changed))) {
                        found.add(new int[] {place, group, more == 1 ? 1 : 0, letter(counts)});
                    }
                }
            }
        }
        return found;
    }

    private int strokeOf(int stroke, int what) {
        if (stroke < 0 || stroke >= strokes.size()) {
            return INVALID;
        }
        Stroke s = strokes.get(stroke);
        switch (what) {
            case 0: return s.time;
            case 1: return s.gap;
            case 2: return s.itsCase;
            case 3: return s.doubtful;
            case 4: return s.message;
            case 5: return s.letter;
            case 6: return s.group;
            default: return INVALID;
        }
    }

    private int unreadable(Message m) {
        int found = 0;
        for (int letter : lettersOf(m.letters)) {
            found += letter < 0 ? 1 : 0;
        }
        return found;
    }

    private int messageOf(int message, int what) {
        if (message < 0 || message >= messages.size()) {
            return INVALID;
        }
        Message m = messages.get(message);
        switch (what) {
            case 0: return m.letters.size();
            case 1: return unreadable(m);
            case 2: return right(lettersOf(m.letters)) ? 1 : 0;
            case 3: return m.placed;
            case 4: return fitting(m).size();
            case 5: return m.first;
            case 6: return m.doubtful;
            default: return INVALID;
        }
    }

    private int letterOf(int message, int place, int what) {
        if (message < 0 || message >= messages.size() || what < 0 || what > 4 || place < 0
                || place >= messages.get(message).letters.size()) {
            return INVALID;
        }
        List<Integer> counts = messages.get(message).letters.get(place);
        switch (what) {
            case 0: return letter(counts) < 0 ? MISSING : letter(counts);
            case 1: return counts.size();
            case 2: return counts.get(0);
            case 3: return counts.size() < 2 ? MISSING : counts.get(1);
            default: return counts.size() != 2 ? MISSING : neighbours(counts);
        }
    }

    private int neighbours(List<Integer> counts) {
        int set = 0;
        for (int letter = 0; letter < 25; letter++) {
            if (letter == letter(Arrays.asList(counts.get(0) + 1, counts.get(1)))
                    || letter == letter(Arrays.asList(counts.get(0), counts.get(1) + 1))) {
                set += 1 << letter;
            }
        }
        return set;
    }

    private int correction(int message, int index, int what) {
        if (message < 0 || message >= messages.size() || index < 0 || what < 0 || what > 3) {
            return INVALID;
        }
        List<int[]> all = fitting(messages.get(message));
        return index >= all.size() ? MISSING : all.get(index)[what];
    }

    /** Letter, votes and doubt of a place, or null. */
    private int[] election(int place) {
        TreeMap<Integer, Integer> votes = new TreeMap<>();
        for (Message m : messages) {
            List<Integer> letters = lettersOf(m.letters);
            if (place < letters.size() && letters.get(place) >= 0) {
                votes.merge(letters.get(place), 1, Integer::sum);
            }
        }
        if (votes.isEmpty()) {
            return null;
        }
        int most = 0;
        for (int its : votes.values()) {
            most = Math.max(most, its);
        }
        int winner = -1;
        int winners = 0;
        for (int letter : votes.descendingKeySet()) {
            if (votes.get(letter) == most) {
                winner = letter;
                winners++;
            }
        }
        return new int[] {winner, most, winners > 1 ? 1 : 0};
    }

    private int vote(int place, int what) {
        if (place < 0 || what < 0 || what > 2) {
            return INVALID;
        }
        int[] result = election(place);
        return result == null ? MISSING : result[what];
    }

    private int read(int place) {
        if (place < -1) {
            return INVALID;
        }
        if (strokes.isEmpty()) {
            return MISSING;
        }
        List<Integer> all = null;
        int how = 2;
        for (Message m : messages) {
            if (all == null && right(lettersOf(m.letters))) {
                all = lettersOf(m.letters);
                how = 0;
            }
        }
        for (Message m : messages) {
            List<int[]> fitting = fitting(m);
            if (all == null && fitting.size() == 1) {
                all = lettersOf(m.letters);
                all.set(fitting.get(0)[0], fitting.get(0)[3]);
                how = 1;
            }
        }
        if (all == null) {
            all = new ArrayList<>();
            while (election(all.size()) != null) {
                all.add(election(all.size())[0]);
            }
        }
        if (place == -1) {
            return how;
        }
        return place < all.size() ? all.get(place) : MISSING;
    }

    private int count(int what) {
        int letters = 0;
        int unreadable = 0;
        int placed = 0;
        int doubtful = 0;
        int right = 0;
        for (Message m : messages) {
            letters += m.letters.size();
            unreadable += unreadable(m);
            placed += m.placed;
            right += right(lettersOf(m.letters)) ? 1 : 0;
        }
        int leftOut = 0;
        for (Stroke s : strokes) {
            leftOut += s.message == MISSING ? 1 : 0;
            doubtful += s.doubtful == 1 ? 1 : 0;
        }
        switch (what) {
            case 0: return strokes.size();
            case 1: return messages.size();
            case 2: return letters;
            case 3: return unreadable;
            case 4: return leftOut;
            case 5: return placed;
            case 6: return doubtful;
            case 7: return right;
            case 8: return now.pause ? 1 : 0;
            case 9: return now.times.isEmpty() ? MISSING : now.times.last();
            case 10: return history.size();
            case 11: return text.length();
            case 20: return now.beat;
            case 21: return now.tolerance;
            default: return INVALID;
        }
    }

    private int undo() {
        if (history.isEmpty()) {
            return IMPOSSIBLE;
        }
        now = history.removeLast();
        return history.size();
    }

    private int type(int character) {
        if (character < 32 || character > 126) {
            return INVALID;
        }
        if (text.length() == 60) {
            return LIMIT;
        }
        text += (char) character;
        return text.length();
    }

    private static final Pattern ORDER =
            Pattern.compile("(?:([=!])([a-y]+)|(/)|([-+])([0-9]{1,4}));");

    /** The state behind the order, or the reason why it is not possible. */
    private static Object behind(State s, Matcher order) {
        if (order.group(3) != null) {
            State then = s.copy();
            then.pause = true;
            return then;
        }
        if (order.group(1) != null) {
            String letters = order.group(2);
            if (order.group(1).equals("!")) {
                int sum = 0;
                for (char c : letters.toCharArray()) {
                    sum += c - 'a';
                }
                letters += (char) ('a' + sum % 25);
            }
            State then = s;
            for (char c : letters.toCharArray()) {
                then = then == null ? null : rung(then, c - 'a');
            }
            return then == null ? (Object) 3 : then;
        }
        int number = Integer.parseInt(order.group(5));
        State then = s.copy();
        if (order.group(4).equals("-")) {
            if (number >= s.times.size()) {
                return 2;
            }
            then.times.remove(new ArrayList<>(s.times).get(number));
            return then;
        }
        if (!then.times.add(number)) {
            return 2;
        }
        return then.times.size() > 160 ? (Object) 3 : then;
    }

    /** Position and reason of the fault, or the state behind all orders. */
    private Object outcome() {
        State then = now.copy();
        Matcher order = ORDER.matcher(text);
        int at = 0;
        while (at < text.length()) {
            order.region(at, text.length());
            if (!order.lookingAt()) {
                return new int[] {at, 1};
            }
            Object next = behind(then, order);
            if (next instanceof Integer) {
                return new int[] {at, (Integer) next};
            }
            then = (State) next;
            at = order.end();
        }
        return then;
    }

    private int fault(int what) {
        if (what < 0 || what > 1) {
            return INVALID;
        }
        Object outcome = outcome();
        return outcome instanceof int[] ? ((int[]) outcome)[what] : MISSING;
    }

    private int play() {
        Object outcome = outcome();
        if (outcome instanceof int[]) {
            return IMPOSSIBLE;
        }
        remember();
        now = (State) outcome;
        return now.times.size();
    }
}
