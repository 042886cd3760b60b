/**
 * Bells as a message: letters rung as two groups of strokes by a table, read again by the gaps
 * between the strokes, checked, corrected and voted for. The promises stand in ../shared/DOC.md.
 */
public final class BellWords {
    public static final int INVALID_ARGUMENT = -1000001;
    public static final int NOT_POSSIBLE = -1000002;
    public static final int LIMIT_REACHED = -1000003;
    public static final int NOT_FOUND = -1000004;

    private static final int LETTERS = 25;
    private static final int SIDE = 5;
    private static final int MOST_STROKES = 160;
    private static final int LAST_TIME = 9999;
    private static final int LEAST_BEAT = 4;
    private static final int MOST_BEAT = 20;
    private static final int MOST_TOLERANCE = 3;
    private static final int MOST_SHIFT = 99;
    private static final int MOST_STATES = 4;
    private static final int MOST_SIGNS = 60;
    private static final int MOST_DIGITS = 4;
    private static final int FIRST_SIGN = 32;
    private static final int LAST_SIGN = 126;

    /** Stands where there is no letter, no message, no number. */
    private static final int NONE = -1;

    // The cases of a gap, as they are told for reading.
    private static final int TOO_NEAR = 0;
    private static final int SAME_GROUP = 1;
    private static final int ONE_MISSING = 2;
    private static final int NEXT_GROUP = 3;
    private static final int NEXT_LETTER = 4;
    private static final int NEXT_MESSAGE = 5;

    // The reasons of a fault.
    private static final int NO_FAULT = 0;
    private static final int WRONG_FORM = 1;
    private static final int WRONG_STROKE = 2;
    private static final int NO_ROOM = 3;

    private final Tower tower = new Tower();
    private final Tower rehearsal = new Tower();
    private final History history = new History();
    private final Reading reading = new Reading();
    private final Corrections corrections = new Corrections();
    private final Ballot ballot = new Ballot();
    private final Orders orders = new Orders();

    public BellWords() {
    }

    // ---- settings

    public int set(int what, int value) {
        if (what == 0 && value >= LEAST_BEAT && value <= MOST_BEAT) {
            int was = tower.beat;
            history.record(tower);
            tower.beat = value;
            reading.refresh(tower);
            return was;
        }
        if (what == 1 && value >= 0 && value <= MOST_TOLERANCE) {
            int was = tower.tolerance;
            history.record(tower);
            tower.tolerance = value;
            reading.refresh(tower);
            return was;
        }
        return INVALID_ARGUMENT;
    }

    public int swap(int one, int other) {
        if (!isLetter(one) || !isLetter(other) || one == other) {
            return INVALID_ARGUMENT;
        }
        history.record(tower);
        tower.exchange(one, other);
        reading.refresh(tower);
        return tower.tablePlace(one);
    }

    // ---- strokes

    public int ring(int letter) {
        if (!isLetter(letter)) {
            return INVALID_ARGUMENT;
        }
        if (!tower.hasRoomFor(letter)) {
            return LIMIT_REACHED;
        }
        int first = tower.strokes;
        history.record(tower);
        tower.ringLetter(letter);
        reading.refresh(tower);
        return first;
    }

    public int pause() {
        if (tower.paused || tower.strokes == 0) {
            return NOT_POSSIBLE;
        }
        history.record(tower);
        tower.paused = true;
        return tower.strokes;
    }

    public int strike(int time) {
        if (time < 0 || time > LAST_TIME) {
            return INVALID_ARGUMENT;
        }
        if (tower.hasStrokeAt(time)) {
            return NOT_POSSIBLE;
        }
        if (tower.isFull()) {
            return LIMIT_REACHED;
        }
        history.record(tower);
        int stroke = tower.addStroke(time);
        reading.refresh(tower);
        return stroke;
    }

    public int mute(int stroke) {
        if (!tower.hasStroke(stroke)) {
            return INVALID_ARGUMENT;
        }
        int time = tower.times.at(stroke);
        history.record(tower);
        tower.removeStroke(stroke);
        reading.refresh(tower);
        return time;
    }

    public int shift(int stroke, int ticks) {
        if (!tower.hasStroke(stroke) || ticks == 0 || ticks < -MOST_SHIFT || ticks > MOST_SHIFT) {
            return INVALID_ARGUMENT;
        }
        int time = tower.times.at(stroke) + ticks;
        if (time < 0 || time > LAST_TIME || tower.hasStrokeAt(time)) {
            return NOT_POSSIBLE;
        }
        history.record(tower);
        tower.removeStroke(stroke);
        int number = tower.addStroke(time);
        reading.refresh(tower);
        return number;
    }

    public int strokeOf(int stroke, int what) {
        if (!tower.hasStroke(stroke) || what < 0 || what > 6) {
            return INVALID_ARGUMENT;
        }
        if (what == 0) {
            return tower.times.at(stroke);
        }
        if (what <= 3) {
            return stroke == 0 ? NOT_FOUND : reading.gapDetail(stroke, what);
        }
        return reading.isLeftOut(stroke) ? NOT_FOUND : reading.placeDetail(stroke, what);
    }

    // ---- reading

    public int messageOf(int message, int what) {
        if (!reading.hasMessage(message)) {
            return INVALID_ARGUMENT;
        }
        switch (what) {
            case 0:
                return reading.lengthOf(message);
            case 1:
                return reading.messages.unreadable.at(message);
            case 2:
                return reading.isRight(message) ? 1 : 0;
            case 3:
                return reading.messages.placed.at(message);
            case 4:
                return corrections.fitting(reading, message);
            case 5:
                return reading.messages.firstStrokes.at(message);
            case 6:
                return reading.messages.doubtful.at(message);
            default:
                return INVALID_ARGUMENT;
        }
    }

    public int letterOf(int message, int place, int what) {
        if (!reading.hasMessage(message) || place < 0 || place >= reading.lengthOf(message)) {
            return INVALID_ARGUMENT;
        }
        Letters letters = reading.letters;
        int index = reading.indexOf(message, place);
        int groups = letters.groups.at(index);
        switch (what) {
            case 0:
                return orNotFound(letters.values.at(index));
            case 1:
                return groups;
            case 2:
                return letters.firstCounts.at(index);
            case 3:
                return groups < 2 ? NOT_FOUND : letters.secondCounts.at(index);
            case 4:
                return groups != 2 ? NOT_FOUND : letters.withOneMore(index);
            default:
                return INVALID_ARGUMENT;
        }
    }

    public int correction(int message, int index, int what) {
        if (!reading.hasMessage(message) || index < 0 || what < 0 || what > 3) {
            return INVALID_ARGUMENT;
        }
        if (!corrections.find(reading, message, index)) {
            return NOT_FOUND;
        }
        switch (what) {
            case 0:
                return corrections.place;
            case 1:
                return corrections.group;
            case 2:
                return corrections.step > 0 ? 1 : 0;
            default:
                return corrections.letter;
        }
    }

    public int vote(int place, int what) {
        if (place < 0 || what < 0 || what > 2) {
            return INVALID_ARGUMENT;
        }
        ballot.poll(reading, place);
        if (ballot.winner == NONE) {
            return NOT_FOUND;
        }
        switch (what) {
            case 0:
                return ballot.winner;
            case 1:
                return ballot.most;
            default:
                return ballot.doubtful ? 1 : 0;
        }
    }

    public int read(int place) {
        if (place < -1) {
            return INVALID_ARGUMENT;
        }
        if (tower.strokes == 0) {
            return NOT_FOUND;
        }
        int right = reading.firstRight();
        if (right != NONE) {
            return place == -1 ? 0 : rightLetter(right, place);
        }
        int corrected = corrections.firstClear(reading);
        if (corrected != NONE) {
            return place == -1 ? 1 : correctedLetter(corrected, place);
        }
        return place == -1 ? 2 : votedLetter(place);
    }

    public int tableOf(int letter) {
        return isLetter(letter) ? tower.tablePlace(letter) : INVALID_ARGUMENT;
    }

    public int count(int what) {
        switch (what) {
            case 0:
                return tower.strokes;
            case 1:
                return reading.messages.number;
            case 2:
                return reading.letters.number;
            case 3:
                return reading.messages.totalOf(reading.messages.unreadable);
            case 4:
                return reading.leftOut;
            case 5:
                return reading.messages.totalOf(reading.messages.placed);
            case 6:
                return reading.messages.totalOf(reading.messages.doubtful);
            case 7:
                return reading.rightOnes();
            default:
                return countOfState(what);
        }
    }

    public int undo() {
        if (history.size == 0) {
            return NOT_POSSIBLE;
        }
        history.restore(tower);
        reading.refresh(tower);
        return history.size;
    }

    // ---- texts

    public int type(int character) {
        if (character < FIRST_SIGN || character > LAST_SIGN) {
            return INVALID_ARGUMENT;
        }
        if (orders.length >= MOST_SIGNS) {
            return LIMIT_REACHED;
        }
        orders.append(character);
        return orders.length;
    }

    public int clearText() {
        int had = orders.length;
        orders.length = 0;
        return had;
    }

    public int fault(int what) {
        if (what != 0 && what != 1) {
            return INVALID_ARGUMENT;
        }
        orders.rehearse(tower, rehearsal);
        if (orders.reason == NO_FAULT) {
            return NOT_FOUND;
        }
        return what == 0 ? orders.start : orders.reason;
    }

    public int play() {
        orders.rehearse(tower, rehearsal);
        if (orders.reason != NO_FAULT) {
            return NOT_POSSIBLE;
        }
        history.record(tower);
        tower.become(rehearsal);
        reading.refresh(tower);
        return tower.strokes;
    }

    // ---- helpers of the calls

    private static boolean isLetter(int letter) {
        return letter >= 0 && letter < LETTERS;
    }

    private static int orNotFound(int value) {
        return value == NONE ? NOT_FOUND : value;
    }

    private int countOfState(int what) {
        switch (what) {
            case 8:
                return tower.paused ? 1 : 0;
            case 9:
                return tower.strokes == 0 ? NOT_FOUND : tower.lastTime();
            case 10:
                return history.size;
            case 11:
                return orders.length;
            case 20:
                return tower.beat;
            case 21:
                return tower.tolerance;
            default:
                return INVALID_ARGUMENT;
        }
    }

    private int rightLetter(int message, int place) {
        return place < reading.lengthOf(message) ? reading.letterIn(message, place) : NOT_FOUND;
    }

    /** The search for this message has left its one correction there. */
    private int correctedLetter(int message, int place) {
        return place == corrections.place ? corrections.letter : rightLetter(message, place);
    }

    /** A place behind one without a vote is not read, even if it has a vote itself. */
    private int votedLetter(int place) {
        if (place >= reading.letters.number) {
            return NOT_FOUND;
        }
        for (int ahead = 0; ahead <= place; ahead++) {
            ballot.poll(reading, ahead);
            if (ballot.winner == NONE) {
                return NOT_FOUND;
            }
        }
        return ballot.winner;
    }

    /** Numbers that can be asked for by any index: every array access of the class stands here. */
    private static final class Row {
        private final int[] cells;

        Row(int length) {
            cells = new int[length > 0 ? length : 0];
        }

        int at(int index) {
            return index >= 0 && index < cells.length ? cells[index] : 0;
        }

        void put(int index, int value) {
            if (index >= 0 && index < cells.length) {
                cells[index] = value;
            }
        }

        void add(int index, int more) {
            put(index, at(index) + more);
        }

        void clear() {
            for (int index = 0; index < cells.length; index++) {
                cells[index] = 0;
            }
        }

        void copy(Row other, int length) {
            for (int index = 0; index < length; index++) {
                put(index, other.at(index));
            }
        }
    }

    /** What a change can change: the strokes, the pause, the settings and the table. */
    private static final class Tower {
        final Row times = new Row(MOST_STROKES);
        final Row cellOf = new Row(LETTERS);
        int strokes = 0;
        int beat = 8;
        int tolerance = 1;
        boolean paused = false;

        Tower() {
            for (int letter = 0; letter < LETTERS; letter++) {
                cellOf.put(letter, letter);
            }
        }

        void become(Tower other) {
            times.copy(other.times, other.strokes);
            cellOf.copy(other.cellOf, LETTERS);
            strokes = other.strokes;
            beat = other.beat;
            tolerance = other.tolerance;
            paused = other.paused;
        }

        void exchange(int one, int other) {
            int cell = cellOf.at(one);
            cellOf.put(one, cellOf.at(other));
            cellOf.put(other, cell);
        }

        int rowOf(int letter) {
            return cellOf.at(letter) / SIDE + 1;
        }

        int columnOf(int letter) {
            return cellOf.at(letter) % SIDE + 1;
        }

        int tablePlace(int letter) {
            return 10 * rowOf(letter) + columnOf(letter);
        }

        boolean hasStroke(int stroke) {
            return stroke >= 0 && stroke < strokes;
        }

        boolean isFull() {
            return strokes >= MOST_STROKES;
        }

        int lastTime() {
            return times.at(strokes - 1);
        }

        /** How many strokes are ahead of a time: the number that a stroke at it has, or would have. */
        int strokesAhead(int time) {
            int ahead = 0;
            while (ahead < strokes && times.at(ahead) < time) {
                ahead++;
            }
            return ahead;
        }

        boolean hasStrokeAt(int time) {
            int stroke = strokesAhead(time);
            return stroke < strokes && times.at(stroke) == time;
        }

        int addStroke(int time) {
            int number = strokesAhead(time);
            for (int stroke = strokes; stroke > number; stroke--) {
                times.put(stroke, times.at(stroke - 1));
            }
            times.put(number, time);
            strokes++;
            return number;
        }

        void removeStroke(int number) {
            for (int stroke = number; stroke < strokes - 1; stroke++) {
                times.put(stroke, times.at(stroke + 1));
            }
            strokes--;
        }

        private int nextTime() {
            return strokes == 0 ? 0 : times.at(strokes - 1) + (paused ? 12 : 6) * beat;
        }

        boolean hasRoomFor(int letter) {
            int more = rowOf(letter) + columnOf(letter);
            // All gaps of a letter are one beat, but for that of three beats in the middle.
            int end = nextTime() + (more + 1) * beat;
            return strokes + more <= MOST_STROKES && end <= LAST_TIME;
        }

        /** Only behind hasRoomFor. */
        void ringLetter(int letter) {
            int first = nextTime();
            int row = rowOf(letter);
            ringGroup(first, row);
            ringGroup(first + (row + 2) * beat, columnOf(letter));
            paused = false;
        }

        private void ringGroup(int time, int size) {
            for (int stroke = 0; stroke < size; stroke++) {
                times.put(strokes, time + stroke * beat);
                strokes++;
            }
        }
    }

    /** The latest states, in slots that are used in turn. */
    private static final class History {
        private final Tower[] slots = new Tower[MOST_STATES];
        private int oldest = 0;
        int size = 0;

        History() {
            for (int slot = 0; slot < slots.length; slot++) {
                slots[slot] = new Tower();
            }
        }

        void record(Tower tower) {
            if (size == MOST_STATES) {
                oldest = (oldest + 1) % MOST_STATES;
                size--;
            }
            Tower state = stateAt(size);
            if (state != null) {
                state.become(tower);
                size++;
            }
        }

        void restore(Tower tower) {
            Tower state = stateAt(size - 1);
            if (size > 0 && state != null) {
                tower.become(state);
                size--;
            }
        }

        private Tower stateAt(int index) {
            int slot = Math.floorMod(oldest + index, MOST_STATES);
            return slot < slots.length ? slots[slot] : null;
        }
    }

    /** The letters of all messages, one behind the other, by the counts of their groups. */
    private static final class Letters {
        final Row groups = new Row(MOST_STROKES);
        final Row firstCounts = new Row(MOST_STROKES);
        final Row secondCounts = new Row(MOST_STROKES);
        /** The letters themselves, NONE where one is unreadable. */
        final Row values = new Row(MOST_STROKES);
        private final Row letterOfCell = new Row(LETTERS);
        int number = 0;

        void restart(Tower tower) {
            number = 0;
            for (int letter = 0; letter < LETTERS; letter++) {
                letterOfCell.put(tower.cellOf.at(letter), letter);
            }
        }

        void begin() {
            groups.put(number, 1);
            firstCounts.put(number, 1);
            secondCounts.put(number, 0);
            number++;
        }

        void beginGroup() {
            groups.add(number - 1, 1);
            lengthen(1);
        }

        /** Counts of a third group or later ones are of no use, so that none are kept. */
        void lengthen(int more) {
            int index = number - 1;
            if (groups.at(index) == 1) {
                firstCounts.add(index, more);
            } else if (groups.at(index) == 2) {
                secondCounts.add(index, more);
            }
        }

        /** Fixes what each letter is, as soon as no stroke comes that could lengthen it. */
        void settle() {
            for (int index = 0; index < number; index++) {
                values.put(index, letterWith(index, 0, 0));
            }
        }

        /** What it is with so many strokes more in one of its two groups, or NONE. */
        int letterWith(int index, int group, int more) {
            if (groups.at(index) != 2) {
                return NONE;
            }
            int row = firstCounts.at(index) + (group == 0 ? more : 0);
            int column = secondCounts.at(index) + (group == 1 ? more : 0);
            return letterBy(row, column);
        }

        int withOneMore(int index) {
            return bitOf(letterWith(index, 0, 1)) | bitOf(letterWith(index, 1, 1));
        }

        private int bitOf(int letter) {
            return letter == NONE ? 0 : 1 << letter;
        }

        private int letterBy(int row, int column) {
            if (row < 1 || row > SIDE || column < 1 || column > SIDE) {
                return NONE;
            }
            return letterOfCell.at(SIDE * (row - 1) + column - 1);
        }
    }

    /** The messages: where they begin, and what is counted of them. */
    private static final class Messages {
        final Row firstStrokes = new Row(MOST_STROKES);
        final Row firstLetters = new Row(MOST_STROKES);
        final Row lengths = new Row(MOST_STROKES);
        final Row placed = new Row(MOST_STROKES);
        final Row doubtful = new Row(MOST_STROKES);
        final Row unreadable = new Row(MOST_STROKES);
        final Row sums = new Row(MOST_STROKES);
        int number = 0;

        void begin(int stroke, int letter) {
            firstStrokes.put(number, stroke);
            firstLetters.put(number, letter);
            lengths.put(number, 0);
            placed.put(number, 0);
            doubtful.put(number, 0);
            unreadable.put(number, 0);
            sums.put(number, 0);
            number++;
        }

        /** One more for the message that is read just now. */
        void addTo(Row row) {
            row.add(number - 1, 1);
        }

        int totalOf(Row row) {
            int total = 0;
            for (int message = 0; message < number; message++) {
                total += row.at(message);
            }
            return total;
        }
    }

    /** What is read from the strokes of a tower; to be refreshed when they, or the settings, change. */
    private static final class Reading {
        final Letters letters = new Letters();
        final Messages messages = new Messages();
        private final Row gaps = new Row(MOST_STROKES);
        private final Row cases = new Row(MOST_STROKES);
        private final Row doubts = new Row(MOST_STROKES);
        private final Row messageNumbers = new Row(MOST_STROKES);
        private final Row letterPlaces = new Row(MOST_STROKES);
        private final Row groupNumbers = new Row(MOST_STROKES);
        int leftOut = 0;

        void refresh(Tower tower) {
            letters.restart(tower);
            messages.number = 0;
            leftOut = 0;
            int lastCounted = 0;
            for (int stroke = 0; stroke < tower.strokes; stroke++) {
                int time = tower.times.at(stroke);
                if (stroke == 0) {
                    // The first stroke has no gap, but begins a message as if it had a long one.
                    cases.put(stroke, NEXT_MESSAGE);
                } else {
                    noteGap(stroke, time - lastCounted, tower);
                }
                goOn(stroke);
                notePlace(stroke);
                if (!isLeftOut(stroke)) {
                    lastCounted = time;
                }
            }
            letters.settle();
            sumUp();
        }

        private void noteGap(int stroke, int gap, Tower tower) {
            int itsCase = caseOf(gap, tower.beat);
            boolean doubtful = itsCase != caseOf(gap - tower.tolerance, tower.beat)
                    || itsCase != caseOf(gap + tower.tolerance, tower.beat);
            gaps.put(stroke, gap);
            cases.put(stroke, itsCase);
            doubts.put(stroke, doubtful ? 1 : 0);
        }

        private int caseOf(int gap, int beat) {
            int quarters = 4 * gap;
            if (quarters < 3 * beat) {
                return TOO_NEAR;
            }
            if (quarters < 6 * beat) {
                return SAME_GROUP;
            }
            if (quarters < 10 * beat) {
                return ONE_MISSING;
            }
            if (quarters < 18 * beat) {
                return NEXT_GROUP;
            }
            return quarters < 32 * beat ? NEXT_LETTER : NEXT_MESSAGE;
        }

        private void goOn(int stroke) {
            switch (cases.at(stroke)) {
                case TOO_NEAR:
                    leftOut++;
                    break;
                case SAME_GROUP:
                    letters.lengthen(1);
                    break;
                case ONE_MISSING:
                    letters.lengthen(2);
                    messages.addTo(messages.placed);
                    break;
                case NEXT_GROUP:
                    letters.beginGroup();
                    break;
                case NEXT_LETTER:
                    beginLetter();
                    break;
                default:
                    messages.begin(stroke, letters.number);
                    beginLetter();
                    break;
            }
        }

        private void beginLetter() {
            letters.begin();
            messages.addTo(messages.lengths);
        }

        private void notePlace(int stroke) {
            int message = messages.number - 1;
            messageNumbers.put(stroke, message);
            letterPlaces.put(stroke, lengthOf(message) - 1);
            groupNumbers.put(stroke, letters.groups.at(letters.number - 1) - 1);
            if (doubts.at(stroke) == 1) {
                messages.addTo(messages.doubtful);
            }
        }

        private void sumUp() {
            for (int message = 0; message < messages.number; message++) {
                for (int place = 0; place < lengthOf(message); place++) {
                    int letter = letterIn(message, place);
                    if (letter == NONE) {
                        messages.unreadable.add(message, 1);
                    } else {
                        messages.sums.add(message, letter);
                    }
                }
            }
        }

        boolean isLeftOut(int stroke) {
            return cases.at(stroke) == TOO_NEAR;
        }

        int gapDetail(int stroke, int what) {
            switch (what) {
                case 1:
                    return gaps.at(stroke);
                case 2:
                    return cases.at(stroke);
                default:
                    return doubts.at(stroke);
            }
        }

        int placeDetail(int stroke, int what) {
            switch (what) {
                case 4:
                    return messageNumbers.at(stroke);
                case 5:
                    return letterPlaces.at(stroke);
                default:
                    return groupNumbers.at(stroke);
            }
        }

        boolean hasMessage(int message) {
            return message >= 0 && message < messages.number;
        }

        int lengthOf(int message) {
            return messages.lengths.at(message);
        }

        int indexOf(int message, int place) {
            return messages.firstLetters.at(message) + place;
        }

        int letterIn(int message, int place) {
            return letters.values.at(indexOf(message, place));
        }

        boolean isRight(int message) {
            int first = letterIn(message, 0);
            return first != NONE && isRightWith(message, 0, first);
        }

        /** Whether a message is right if the letter at a place is read as a certain one. */
        boolean isRightWith(int message, int place, int letter) {
            int was = letterIn(message, place);
            int unreadable = messages.unreadable.at(message) - (was == NONE ? 1 : 0);
            int last = lengthOf(message) - 1;
            if (unreadable > 0 || last < 1) {
                return false;
            }
            int check = place == last ? letter : letterIn(message, last);
            int all = messages.sums.at(message) - (was == NONE ? 0 : was) + letter;
            return (all - check) % LETTERS == check;
        }

        int firstRight() {
            for (int message = 0; message < messages.number; message++) {
                if (isRight(message)) {
                    return message;
                }
            }
            return NONE;
        }

        int rightOnes() {
            int right = 0;
            for (int message = 0; message < messages.number; message++) {
                if (isRight(message)) {
                    right++;
                }
            }
            return right;
        }
    }

    /** Looks for the corrections of a message that fit, and keeps the one that was looked for. */
    private static final class Corrections {
        int place = NONE;
        int group = NONE;
        int step = 0;
        int letter = NONE;
        private int found = 0;

        int fitting(Reading reading, int message) {
            search(reading, message, NONE);
            return found;
        }

        boolean find(Reading reading, int message, int index) {
            search(reading, message, index);
            return index < found;
        }

        /** The first message that has just one correction that fits, which is kept then, or NONE. */
        int firstClear(Reading reading) {
            for (int message = 0; message < reading.messages.number; message++) {
                search(reading, message, 0);
                if (found == 1) {
                    return message;
                }
            }
            return NONE;
        }

        private void search(Reading reading, int message, int wanted) {
            found = 0;
            for (int at = 0; at < reading.lengthOf(message); at++) {
                for (int in = 0; in < 2; in++) {
                    consider(reading, message, at, in, 1, wanted);
                    consider(reading, message, at, in, -1, wanted);
                }
            }
        }

        private void consider(Reading reading, int message, int at, int in, int more, int wanted) {
            int then = reading.letters.letterWith(reading.indexOf(message, at), in, more);
            if (then == NONE || !reading.isRightWith(message, at, then)) {
                return;
            }
            if (found == wanted) {
                place = at;
                group = in;
                step = more;
                letter = then;
            }
            found++;
        }
    }

    /** Counts what the copies say of one place. */
    private static final class Ballot {
        private final Row votes = new Row(LETTERS);
        int winner = NONE;
        int most = 0;
        boolean doubtful = false;

        void poll(Reading reading, int place) {
            votes.clear();
            for (int message = 0; message < reading.messages.number; message++) {
                int letter = place < reading.lengthOf(message) ? reading.letterIn(message, place) : NONE;
                if (letter != NONE) {
                    votes.add(letter, 1);
                }
            }
            decide();
        }

        private void decide() {
            winner = NONE;
            most = 0;
            doubtful = false;
            for (int letter = 0; letter < LETTERS; letter++) {
                int its = votes.at(letter);
                if (its > most) {
                    winner = letter;
                    most = its;
                    doubtful = false;
                } else if (its > 0 && its == most) {
                    doubtful = true;
                }
            }
        }
    }

    /** The text, its orders, and where they stop to be possible. */
    private static final class Orders {
        private final Row signs = new Row(MOST_SIGNS);
        int length = 0;
        int start = 0;
        int reason = NO_FAULT;

        void append(int sign) {
            signs.put(length, sign);
            length++;
        }

        /**
         * Does the orders on a copy, so that a fault in the middle leaves the tower as it is; start and
         * reason tell the fault.
         */
        void rehearse(Tower tower, Tower copy) {
            copy.become(tower);
            start = 0;
            reason = NO_FAULT;
            for (int at = 0; at < length && reason == NO_FAULT; at++) {
                if (signs.at(at) == ';') {
                    reason = performOne(copy, at);
                    start = reason == NO_FAULT ? at + 1 : start;
                }
            }
            if (reason == NO_FAULT && start < length) {
                reason = WRONG_FORM;
            }
        }

        /** Returns the reason why the order from start to this end is not possible, or NO_FAULT. */
        private int performOne(Tower tower, int end) {
            switch (signs.at(start)) {
                case '=':
                    return ringAll(tower, end, false);
                case '!':
                    return ringAll(tower, end, true);
                case '/':
                    return setPause(tower, end);
                case '-':
                    return muteOne(tower, numberUpTo(end));
                case '+':
                    return strikeOne(tower, numberUpTo(end));
                default:
                    return WRONG_FORM;
            }
        }

        private int ringAll(Tower tower, int end, boolean checked) {
            if (!hasLettersUpTo(end)) {
                return WRONG_FORM;
            }
            int sum = 0;
            for (int at = start + 1; at < end; at++) {
                int letter = signs.at(at) - 'a';
                if (!tower.hasRoomFor(letter)) {
                    return NO_ROOM;
                }
                tower.ringLetter(letter);
                sum += letter;
            }
            if (!checked) {
                return NO_FAULT;
            }
            int check = sum % LETTERS;
            if (!tower.hasRoomFor(check)) {
                return NO_ROOM;
            }
            tower.ringLetter(check);
            return NO_FAULT;
        }

        private int setPause(Tower tower, int end) {
            if (end != start + 1) {
                return WRONG_FORM;
            }
            tower.paused = true;
            return NO_FAULT;
        }

        private int muteOne(Tower tower, int stroke) {
            if (stroke == NONE) {
                return WRONG_FORM;
            }
            if (!tower.hasStroke(stroke)) {
                return WRONG_STROKE;
            }
            tower.removeStroke(stroke);
            return NO_FAULT;
        }

        private int strikeOne(Tower tower, int time) {
            if (time == NONE) {
                return WRONG_FORM;
            }
            if (tower.hasStrokeAt(time)) {
                return WRONG_STROKE;
            }
            if (tower.isFull()) {
                return NO_ROOM;
            }
            tower.addStroke(time);
            return NO_FAULT;
        }

        private boolean hasLettersUpTo(int end) {
            for (int at = start + 1; at < end; at++) {
                if (!isLetter(signs.at(at) - 'a')) {
                    return false;
                }
            }
            return end > start + 1;
        }

        /** The number that stands behind the first sign of the order, or NONE. */
        private int numberUpTo(int end) {
            int digits = end - start - 1;
            if (digits < 1 || digits > MOST_DIGITS) {
                return NONE;
            }
            int number = 0;
            for (int at = start + 1; at < end; at++) {
                int digit = signs.at(at) - '0';
                if (digit < 0 || digit > 9) {
                    return NONE;
                }
                number = 10 * number + digit;
            }
            return number;
        }
    }
}
