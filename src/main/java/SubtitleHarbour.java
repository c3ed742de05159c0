import java.util.Arrays;
import java.util.NoSuchElementException;

/**
 * A player of timed texts: captions by control codes, and cues in regions that can be changed, heard and paired.
 *
 * <p>All rows are made with the object and used again, so that no call makes anything.
 */
public final class SubtitleHarbour {
    private static final int LAST_FRAME = 99999;
    private static final int SECOND = 30;
    private static final int MINUTE = 1800;
    private static final int HOUR = 108000;
    private static final int DROPPED = 2;
    private static final int DROP_MINUTE = 1798;
    private static final int TEN_DROP_MINUTES = 17982;
    private static final int ROWS = 8;
    private static final int COLUMNS = 20;
    private static final int CELLS = 160;
    private static final int LEAST_COLUMNS = 5;
    private static final int MOST_COLUMNS = 40;
    private static final int MOST_CODES = 200;
    private static final int REGIONS = 3;
    private static final int MOST_CUES = 24;
    private static final int MOST_WORDS = 12;
    private static final int GREATEST_WORD = 99;
    private static final int MOST_CUTS = 20;
    private static final int FARTHEST_REACH = 99;
    private static final int LONGEST_LEAST = 999;
    private static final int WIDEST_GAP = 99;
    private static final int GREATEST_RATE = 1001;
    private static final int MOST_ANCHORS = 8;
    private static final int MOST_HEARD = 30;
    private static final int HEARD_AROUND = 30;
    private static final int OTHER_WORD_COST = 3;
    private static final int NO_WORD_COST = 2;
    private static final int LEFT_OUT_COST = 1;
    private static final int WORD_COST = 5;
    private static final int ALONE_COST = 40;
    private static final int NONE = -1;

    private final Codes codes;
    private final Screen jumped;
    private final Screen played;
    private final Stage stage;
    private final Cue[] cueRow;
    private int cuesMade;
    private boolean isArranged;
    private final Cuts cuts;
    private final Anchors anchors;
    private final Alignment alignment;
    private final Hearing hearing;
    private final Pairing pairing;

    public SubtitleHarbour() {
        codes = new Codes();
        jumped = new Screen();
        played = new Screen();
        stage = new Stage();
        cueRow = stage.cues;
        cuts = new Cuts();
        anchors = new Anchors();
        alignment = new Alignment();
        hearing = new Hearing();
        pairing = new Pairing();
    }

    public int frameOf(int hours, int minutes, int seconds, int frame, boolean isDrop)
            throws IllegalArgumentException {
        if (hours < 0 || !isIn(minutes, 0, 59) || !isIn(seconds, 0, 59) || !isIn(frame, 0, SECOND - 1)) {
            throw new IllegalArgumentException("a part of the stamp is out of range");
        }
        if (isDrop && minutes % 10 != 0 && seconds == 0 && frame < DROPPED) {
            throw new IllegalArgumentException("the stamp has no place");
        }
        long allMinutes = 60L * hours + minutes;
        long number = allMinutes * MINUTE + seconds * SECOND + frame;
        if (isDrop) {
            number -= DROPPED * (allMinutes - allMinutes / 10);
        }
        if (number > LAST_FRAME) {
            throw new IllegalArgumentException("the frame is too great");
        }
        return (int) number;
    }

    public int stampOf(int frame, int part, boolean isDrop) throws IllegalArgumentException {
        needFrame(frame);
        needArgument(isIn(part, 0, 3));
        int counted = isDrop ? countedWithDropped(frame) : frame;
        switch (part) {
            case 0:
                return counted / HOUR;
            case 1:
                return counted / MINUTE % 60;
            case 2:
                return counted / SECOND % 60;
            default:
                return counted % SECOND;
        }
    }

    public boolean code(int frame, char kind, int value) throws IllegalArgumentException, IllegalStateException {
        needFrame(frame);
        needArgument(isCode(kind, value));
        if (codes.count >= MOST_CODES && !codes.hasAt(frame)) {
            throw new IllegalStateException("there are 200 codes");
        }
        boolean wasThere = codes.put(frame, kind, hasValue(kind) ? value : 0);
        jumped.restart();
        return wasThere;
    }

    public boolean dropCode(int frame) throws IllegalArgumentException {
        needFrame(frame);
        boolean wasThere = codes.takeAway(frame);
        jumped.restart();
        return wasThere;
    }

    public int cellAt(int frame, int row, int column) throws IllegalArgumentException {
        needCell(frame, row, column);
        return jumpTo(frame).shown.letterIn(row, column);
    }

    public int cellAnew(int frame, int row, int column) throws IllegalArgumentException {
        needCell(frame, row, column);
        played.restart();
        played.goTo(codes, frame);
        return played.shown.letterIn(row, column);
    }

    public int colourAt(int frame, int row, int column) throws IllegalArgumentException {
        needCell(frame, row, column);
        return jumpTo(frame).shown.colourIn(row, column);
    }

    public char modeAt(int frame) throws IllegalArgumentException {
        needFrame(frame);
        return jumpTo(frame).mode;
    }

    public int cursorAt(int frame) throws IllegalArgumentException {
        needFrame(frame);
        Screen screen = jumpTo(frame);
        return COLUMNS * screen.row + screen.column;
    }

    public int shown(int frame) throws IllegalArgumentException {
        needFrame(frame);
        return jumpTo(frame).shown.filledCells();
    }

    public int setRegion(int region, int top, int rows, int columns) throws IllegalArgumentException {
        needArgument(isIn(region, 0, REGIONS - 1) && isIn(top, 0, ROWS - 1) && isIn(rows, 1, ROWS)
                && top + rows <= ROWS && isIn(columns, LEAST_COLUMNS, MOST_COLUMNS));
        int before = stage.widths[region];
        stage.tops[region] = top;
        stage.heights[region] = rows;
        stage.widths[region] = columns;
        isArranged = false;
        return before;
    }

    public int addCue(int start, int end, int region) throws IllegalArgumentException, IllegalStateException {
        needFrame(start);
        needFrame(end);
        needArgument(end > start && isIn(region, 0, REGIONS - 1));
        needRoomForCue();
        return makeCue(start, end, region);
    }

    public int addWord(int cue, int word)
            throws NoSuchElementException, IllegalArgumentException, IllegalStateException {
        Cue changed = cueOf(cue);
        needArgument(isIn(word, 1, GREATEST_WORD));
        if (changed.wordCount >= MOST_WORDS) {
            throw new IllegalStateException("the cue has 12 words");
        }
        changed.append(word);
        isArranged = false;
        return changed.wordCount;
    }

    public int dropCue(int cue) throws NoSuchElementException {
        Cue dropped = cueOf(cue);
        dropped.isThere = false;
        isArranged = false;
        return dropped.wordCount;
    }

    public int cues() {
        int count = 0;
        for (int number = 0; number < MOST_CUES; number++) {
            if (cueRow[number].isThere) {
                count++;
            }
        }
        return count;
    }

    public int startOf(int cue) throws NoSuchElementException {
        return cueOf(cue).start;
    }

    public int endOf(int cue) throws NoSuchElementException {
        return cueOf(cue).end;
    }

    public int lines(int cue) throws NoSuchElementException {
        Cue asked = cueOf(cue);
        arrange();
        return asked.lineCount;
    }

    public int wordsIn(int cue, int line) throws NoSuchElementException, IndexOutOfBoundsException {
        Cue asked = cueOf(cue);
        arrange();
        if (line < 0 || line >= asked.lineCount || line >= MOST_WORDS) {
            throw new IndexOutOfBoundsException("there is no such line");
        }
        return asked.lineWords[line];
    }

    public int rowOf(int cue) throws NoSuchElementException {
        Cue asked = cueOf(cue);
        arrange();
        return asked.row;
    }

    public int cueAt(int frame, int row) throws IllegalArgumentException {
        needFrame(frame);
        needArgument(isIn(row, 0, ROWS - 1));
        arrange();
        return stage.cueOn(frame, row);
    }

    public int cueAnew(int frame, int row) throws IllegalArgumentException {
        needFrame(frame);
        needArgument(isIn(row, 0, ROWS - 1));
        arrange();
        stage.playTo(frame);
        return stage.playedCueOn(row);
    }

    public int addCut(int frame) throws IllegalArgumentException, IllegalStateException {
        needFrame(frame);
        if (cuts.count >= MOST_CUTS || cuts.nearest(frame) == frame) {
            throw new IllegalStateException("there are 20 cuts, or it is there");
        }
        cuts.add(frame);
        return cuts.count;
    }

    public int snap(int reach) throws IllegalArgumentException {
        needArgument(isIn(reach, 0, FARTHEST_REACH));
        int changes = 0;
        for (int number = 0; number < MOST_CUES; number++) {
            Cue cue = cueRow[number];
            if (cue.isThere) {
                int start = cuts.snapped(cue.start, reach);
                changes += cue.moveTo(start < cue.end ? start : cue.start, cue.end);
                int end = cuts.snapped(cue.end, reach);
                changes += cue.moveTo(cue.start, end > cue.start ? end : cue.end);
            }
        }
        isArranged = false;
        return changes;
    }

    public int stretch(int least, int gap) throws IllegalArgumentException {
        needArgument(isIn(least, 1, LONGEST_LEAST) && isIn(gap, 0, WIDEST_GAP));
        arrange();
        int changes = 0;
        for (int place = 0; place < stage.count; place++) {
            Cue cue = stage.cueIn(place);
            int end = Math.min(Math.max(cue.end, cue.start + least), LAST_FRAME);
            int next = stage.nextOfRegion(place);
            if (next != NONE) {
                end = Math.min(end, stage.cueIn(next).start - gap);
            }
            changes += cue.moveTo(cue.start, Math.max(end, cue.start + 1));
        }
        isArranged = false;
        return changes;
    }

    public int merge(int cue, int other)
            throws NoSuchElementException, IllegalArgumentException, IllegalStateException {
        Cue kept = cueOf(cue);
        Cue taken = cueOf(other);
        needArgument(cue != other && kept.region == taken.region);
        if (kept.wordCount + taken.wordCount > MOST_WORDS) {
            throw new IllegalStateException("there would be more than 12 words");
        }
        kept.appendFrom(taken, 0);
        kept.start = Math.min(kept.start, taken.start);
        kept.end = Math.max(kept.end, taken.end);
        taken.isThere = false;
        isArranged = false;
        return kept.wordCount;
    }

    public int split(int cue, int words) throws NoSuchElementException, IllegalArgumentException,
            UnsupportedOperationException, IllegalStateException {
        Cue kept = cueOf(cue);
        needArgument(words >= 1 && words < kept.wordCount);
        if (kept.length() < 2) {
            throw new UnsupportedOperationException("the cue has fewer than 2 frames");
        }
        needRoomForCue();
        long share = scaled(kept.length(), kept.letters(words), kept.letters(kept.wordCount));
        int parting = kept.start + (int) Math.max(1, Math.min(share, kept.length() - 1));
        int made = makeCue(parting, kept.end, kept.region);
        cueRow[made].appendFrom(kept, words);
        kept.cutWords(words);
        kept.end = parting;
        return made;
    }

    public int convert(int n, int d) throws IllegalArgumentException, UnsupportedOperationException {
        needArgument(isIn(n, 1, GREATEST_RATE) && isIn(d, 1, GREATEST_RATE));
        if (scaled(greatestFrame(), n, d) > LAST_FRAME) {
            throw new UnsupportedOperationException("a frame would be too great");
        }
        for (int number = 0; number < MOST_CUES; number++) {
            Cue cue = cueRow[number];
            if (cue.isThere) {
                int start = (int) scaled(cue.start, n, d);
                cue.moveTo(start, Math.max((int) scaled(cue.end, n, d), start + 1));
            }
        }
        scaleAll(cuts.frames, cuts.count, n, d);
        scaleAll(hearing.frames, hearing.count, n, d);
        isArranged = false;
        return cues();
    }

    public int addAnchor(int frame, int to) throws IllegalArgumentException, IllegalStateException {
        needFrame(frame);
        needFrame(to);
        needArgument(anchors.areBelow(frame, to));
        if (anchors.count >= MOST_ANCHORS) {
            throw new IllegalStateException("there are 8 anchors");
        }
        anchors.add(frame, to);
        return anchors.count;
    }

    public int drift() throws IllegalStateException {
        if (anchors.count <= 0) {
            throw new IllegalStateException("there are no anchors");
        }
        int changes = 0;
        for (int number = 0; number < MOST_CUES; number++) {
            Cue cue = cueRow[number];
            if (cue.isThere) {
                int start = clamped(anchors.moved(cue.start), LAST_FRAME - 1);
                int end = clamped(anchors.moved(cue.end), LAST_FRAME);
                changes += cue.moveTo(start, Math.max(end, start + 1));
            }
        }
        anchors.count = 0;
        isArranged = false;
        return changes;
    }

    public int addHeard(int frame, int word) throws IllegalArgumentException, IllegalStateException {
        needFrame(frame);
        needArgument(isIn(word, 1, GREATEST_WORD));
        if (hearing.count >= MOST_HEARD) {
            throw new IllegalStateException("there are 30 heard words");
        }
        hearing.add(frame, word);
        return hearing.count;
    }

    public int hear(int cue) throws NoSuchElementException {
        return hearing.setTimes(cueOf(cue), alignment);
    }

    public int timeOf(int cue, int word) throws NoSuchElementException, IndexOutOfBoundsException {
        Cue asked = cueOf(cue);
        if (word < 0 || word >= asked.wordCount || word >= MOST_WORDS) {
            throw new IndexOutOfBoundsException("there is no such word");
        }
        return asked.times[word];
    }

    public int sung(int cue, int frame) throws NoSuchElementException, IllegalArgumentException {
        Cue asked = cueOf(cue);
        needFrame(frame);
        int count = 0;
        for (int word = 0; word < asked.wordCount && word < MOST_WORDS; word++) {
            if (asked.times[word] != NONE && asked.times[word] <= frame) {
                count++;
            }
        }
        return count;
    }

    public int pairOf(int cue) throws NoSuchElementException, UnsupportedOperationException {
        Cue asked = cueOf(cue);
        if (asked.region == 0) {
            throw new UnsupportedOperationException("the region 0 has no pairs");
        }
        arrange();
        pairing.pairAll(stage, alignment);
        return asked.region == 1 ? pairing.secondOf(cue, alignment) : pairing.firstOf(cue, alignment);
    }

    public int pairCost() {
        arrange();
        return pairing.pairAll(stage, alignment);
    }

    public long readingTime(int cue) throws NoSuchElementException {
        Cue asked = cueOf(cue);
        long blanks = Math.max(0, asked.wordCount - 1);
        return (asked.letters(asked.wordCount) + blanks) * 2000L + 300L * asked.wordCount;
    }

    public float speed(int cue) throws NoSuchElementException {
        Cue asked = cueOf(cue);
        int frames = asked.length();
        return frames < 1 ? 0.0f : (float) asked.letters(asked.wordCount) / (float) frames * 30.0f;
    }

    public double meanLength() throws ArithmeticException {
        int count = cues();
        if (count <= 0) {
            throw new ArithmeticException("there are no cues");
        }
        int sum = 0;
        for (int number = 0; number < MOST_CUES; number++) {
            if (cueRow[number].isThere) {
                sum += cueRow[number].length();
            }
        }
        return (double) sum / (double) count;
    }

    public boolean isSound() {
        arrange();
        return !stage.hasClash() && isSameAtCodes() && isSameAtCues();
    }

    private static boolean isIn(int number, int least, int most) {
        return number >= least && number <= most;
    }

    private static void needArgument(boolean isRight) {
        if (!isRight) {
            throw new IllegalArgumentException("a number is out of range");
        }
    }

    private static void needFrame(int frame) {
        if (!isIn(frame, 0, LAST_FRAME)) {
            throw new IllegalArgumentException("there is no such frame");
        }
    }

    private static void needCell(int frame, int row, int column) {
        needFrame(frame);
        if (!isIn(row, 0, ROWS - 1) || !isIn(column, 0, COLUMNS - 1)) {
            throw new IllegalArgumentException("there is no such cell");
        }
    }

    private void needRoomForCue() {
        if (cuesMade >= MOST_CUES) {
            throw new IllegalStateException("there were 24 cues");
        }
    }

    private Cue cueOf(int number) {
        if (number < 0 || number >= cuesMade || number >= MOST_CUES || !cueRow[number].isThere) {
            throw new NoSuchElementException("there is no such cue");
        }
        return cueRow[number];
    }

    private static int countedWithDropped(int frame) {
        int tens = frame / TEN_DROP_MINUTES;
        int rest = frame % TEN_DROP_MINUTES;
        // the first of ten minutes drops nothing, so only those behind it are shorter
        int shorter = rest < MINUTE ? 0 : 1 + (rest - MINUTE) / DROP_MINUTE;
        return frame + DROPPED * (9 * tens + shorter);
    }

    private static boolean hasValue(char kind) {
        return kind == 't' || kind == 'r' || kind == 'm' || kind == 'k';
    }

    private static boolean isCode(char kind, int value) {
        switch (kind) {
            case 't':
                return isIn(value, 0, 26);
            case 'r':
                return isIn(value, 2, 4);
            case 'm':
                return isIn(value, 0, CELLS - 1);
            case 'k':
                return isIn(value, 0, 7);
            case 'd':
            case 'p':
            case 'e':
            case 'c':
            case 'x':
            case 'n':
            case 'b':
                return true;
            default:
                return false;
        }
    }

    private Screen jumpTo(int frame) {
        jumped.goTo(codes, frame);
        return jumped;
    }

    private int makeCue(int start, int end, int region) {
        int number = cuesMade;
        if (number < MOST_CUES) {
            Cue made = cueRow[number];
            made.isThere = true;
            made.start = start;
            made.end = end;
            made.region = region;
            cuesMade++;
        }
        isArranged = false;
        return number;
    }

    private void arrange() {
        if (!isArranged) {
            stage.arrangeAll();
            isArranged = true;
        }
    }

    private boolean isSameAtCodes() {
        played.restart();
        for (int place = 0; place < codes.count && place < MOST_CODES; place++) {
            int frame = codes.frames[place];
            jumped.goTo(codes, frame);
            played.goTo(codes, frame);
            if (!jumped.shown.looksLike(played.shown) || !hasSameCuesAt(frame)) {
                return false;
            }
        }
        return true;
    }

    /** What the codes show does not change between two of them, so that the cues alone are left to look at. */
    private boolean isSameAtCues() {
        for (int place = 0; place < stage.count; place++) {
            Cue cue = stage.cueIn(place);
            if (!hasSameCuesAt(cue.start) || !hasSameCuesAt(cue.end - 1)) {
                return false;
            }
        }
        return true;
    }

    private boolean hasSameCuesAt(int frame) {
        stage.playTo(frame);
        for (int row = 0; row < ROWS; row++) {
            if (stage.cueOn(frame, row) != stage.playedCueOn(row)) {
                return false;
            }
        }
        return true;
    }

    /** None of the numbers is ever less than 0, so that the division rounds down. */
    private static long scaled(long number, long n, long d) {
        return d > 0 ? number * n / d : 0;
    }

    private static void scaleAll(int[] frames, int count, int n, int d) {
        for (int place = 0; place < count && place < frames.length; place++) {
            frames[place] = (int) scaled(frames[place], n, d);
        }
    }

    private static int clamped(long frame, int most) {
        return (int) Math.max(0, Math.min(frame, most));
    }

    private int greatestFrame() {
        int greatest = 0;
        for (int number = 0; number < MOST_CUES; number++) {
            if (cueRow[number].isThere) {
                greatest = Math.max(greatest, cueRow[number].end);
            }
        }
        for (int place = 0; place < cuts.count && place < MOST_CUTS; place++) {
            greatest = Math.max(greatest, cuts.frames[place]);
        }
        for (int place = 0; place < hearing.count && place < MOST_HEARD; place++) {
            greatest = Math.max(greatest, hearing.frames[place]);
        }
        return greatest;
    }

    /** The codes by rising frames. */
    private static final class Codes {
        private final int[] frames = new int[MOST_CODES];
        private final char[] kinds = new char[MOST_CODES];
        private final int[] values = new int[MOST_CODES];
        private final boolean[] isRepeat = new boolean[MOST_CODES];
        private int count;

        int countUpTo(int frame) {
            int place = 0;
            while (place < count && place < MOST_CODES && frames[place] <= frame) {
                place++;
            }
            return place;
        }

        boolean hasAt(int frame) {
            int upTo = countUpTo(frame);
            return upTo > 0 && frames[upTo - 1] == frame;
        }

        boolean put(int frame, char kind, int value) {
            boolean wasThere = hasAt(frame);
            int place = countUpTo(frame);
            if (wasThere) {
                place--;
            } else if (count < MOST_CODES) {
                shift(place, place + 1);
                count++;
            }
            if (place >= 0 && place < MOST_CODES) {
                frames[place] = frame;
                kinds[place] = kind;
                values[place] = value;
            }
            markRepeats();
            return wasThere;
        }

        boolean takeAway(int frame) {
            boolean wasThere = hasAt(frame);
            if (wasThere) {
                int behind = countUpTo(frame);
                shift(behind, behind - 1);
                count--;
                markRepeats();
            }
            return wasThere;
        }

        private void shift(int from, int to) {
            int moved = count - from;
            if (from < 0 || to < 0 || moved < 0 || from + moved > MOST_CODES || to + moved > MOST_CODES) {
                return;
            }
            System.arraycopy(frames, from, frames, to, moved);
            System.arraycopy(kinds, from, kinds, to, moved);
            System.arraycopy(values, from, values, to, moved);
        }

        private void markRepeats() {
            boolean wasRepeat = true;
            for (int place = 0; place < count && place < MOST_CODES; place++) {
                // a repeat has no effect itself, so a third one in a row has one again
                isRepeat[place] = !wasRepeat && isTwinOfFormer(place);
                wasRepeat = isRepeat[place];
            }
        }

        private boolean isTwinOfFormer(int place) {
            if (place < 1 || place >= MOST_CODES || kinds[place] == 't') {
                return false;
            }
            return frames[place - 1] == frames[place] - 1 && kinds[place - 1] == kinds[place]
                    && values[place - 1] == values[place];
        }
    }

    /** The letters and colours of all cells, one row behind the other. */
    private static final class Memory {
        private final int[] letters = new int[CELLS];
        private final int[] colours = new int[CELLS];

        Memory() {
            Arrays.fill(letters, NONE);
            Arrays.fill(colours, NONE);
        }

        private static int cellOf(int row, int column) {
            boolean isThere = row >= 0 && row < ROWS && column >= 0 && column < COLUMNS;
            return isThere ? COLUMNS * row + column : NONE;
        }

        int letterIn(int row, int column) {
            int cell = cellOf(row, column);
            return cell == NONE ? NONE : letters[cell];
        }

        int colourIn(int row, int column) {
            int cell = cellOf(row, column);
            return cell == NONE ? NONE : colours[cell];
        }

        void put(int row, int column, int letter, int colour) {
            int cell = cellOf(row, column);
            if (cell != NONE) {
                letters[cell] = letter;
                colours[cell] = colour;
            }
        }

        void emptyAll() {
            emptyRows(0, ROWS - 1);
        }

        private void emptyRows(int first, int last) {
            for (int cell = first < 0 ? 0 : COLUMNS * first; cell < COLUMNS * (last + 1) && cell < CELLS; cell++) {
                letters[cell] = NONE;
                colours[cell] = NONE;
            }
        }

        void rollUp(int first, int last) {
            emptyRows(0, first - 1);
            for (int cell = first < 0 ? 0 : COLUMNS * first; cell < COLUMNS * last && cell + COLUMNS < CELLS; cell++) {
                letters[cell] = letters[cell + COLUMNS];
                colours[cell] = colours[cell + COLUMNS];
            }
            emptyRows(last, last);
        }

        int filledCells() {
            int count = 0;
            for (int cell = 0; cell < CELLS; cell++) {
                if (letters[cell] != NONE) {
                    count++;
                }
            }
            return count;
        }

        boolean looksLike(Memory other) {
            for (int cell = 0; cell < CELLS; cell++) {
                if (letters[cell] != other.letters[cell] || colours[cell] != other.colours[cell]) {
                    return false;
                }
            }
            return true;
        }
    }

    /** What the codes have made, up to one of them; it goes on from there for later frames. */
    private static final class Screen {
        private Memory shown = new Memory();
        private Memory hidden = new Memory();
        private char mode = 'o';
        private int row = ROWS - 1;
        private int column;
        private int rowsToRoll = 2;
        private int colour;
        private int codesDone;

        void restart() {
            if (codesDone == 0) {
                return;
            }
            shown.emptyAll();
            hidden.emptyAll();
            mode = 'o';
            row = ROWS - 1;
            column = 0;
            colour = 0;
            codesDone = 0;
        }

        void goTo(Codes codes, int frame) {
            int upTo = codes.countUpTo(frame);
            if (upTo < codesDone) {
                restart();
            }
            for (int place = codesDone; place < upTo && place < MOST_CODES; place++) {
                if (!codes.isRepeat[place]) {
                    obey(codes.kinds[place], codes.values[place]);
                }
            }
            codesDone = upTo;
        }

        private void obey(char kind, int value) {
            switch (kind) {
                case 't':
                    write(value);
                    break;
                case 'r':
                    startRolling(value);
                    break;
                case 'd':
                case 'p':
                    mode = kind;
                    break;
                case 'e':
                    exchange();
                    break;
                case 'c':
                    newLine();
                    break;
                case 'x':
                    shown.emptyAll();
                    break;
                case 'n':
                    hidden.emptyAll();
                    break;
                case 'b':
                    stepBack();
                    break;
                case 'm':
                    moveCursor(value / COLUMNS, value % COLUMNS);
                    break;
                case 'k':
                    colour = value;
                    break;
                default:
                    break;
            }
        }

        private Memory written() {
            return mode == 'p' ? hidden : shown;
        }

        private void write(int letter) {
            if (mode != 'o') {
                written().put(row, column, letter, colour);
                column = Math.min(column + 1, COLUMNS - 1);
            }
        }

        private void startRolling(int rows) {
            if (mode != 'r') {
                mode = 'r';
                shown.emptyAll();
                hidden.emptyAll();
                row = ROWS - 1;
                column = 0;
            }
            rowsToRoll = rows;
        }

        private void exchange() {
            Memory former = shown;
            shown = hidden;
            hidden = former;
            mode = 'p';
        }

        private void newLine() {
            if (mode == 'r') {
                shown.rollUp(Math.max(0, row - rowsToRoll + 1), row);
                column = 0;
            }
        }

        private void stepBack() {
            if (mode != 'o' && column > 0) {
                column--;
                written().put(row, column, NONE, NONE);
            }
        }

        private void moveCursor(int toRow, int toColumn) {
            if (mode == 'r' && toRow != row) {
                shown.emptyAll();
            }
            row = toRow;
            column = toColumn;
        }
    }

    /** A cue with its words, and the lines and rows that they take. */
    private static final class Cue {
        private boolean isThere;
        private int start;
        private int end;
        private int region;
        private final int[] words = new int[MOST_WORDS];
        private final int[] times = new int[MOST_WORDS];
        private int wordCount;
        private final int[] lineWords = new int[MOST_WORDS];
        private int lineCount;
        private int row = NONE;

        int length() {
            return end - start;
        }

        int lettersOf(int word) {
            return word >= 0 && word < MOST_WORDS ? 1 + words[word] % 9 : 0;
        }

        /** The letters of that many words from the first one on. */
        int letters(int count) {
            int sum = 0;
            for (int word = 0; word < count; word++) {
                sum += lettersOf(word);
            }
            return sum;
        }

        void append(int word) {
            if (wordCount < MOST_WORDS) {
                words[wordCount] = word;
                wordCount++;
                Arrays.fill(times, NONE);
            }
        }

        void appendFrom(Cue other, int first) {
            for (int word = Math.max(0, first); word < other.wordCount && word < MOST_WORDS; word++) {
                append(other.words[word]);
            }
        }

        void cutWords(int count) {
            wordCount = count;
            Arrays.fill(times, NONE);
        }

        /** Returns how many of both frames became others. */
        int moveTo(int newStart, int newEnd) {
            int changes = (newStart == start ? 0 : 1) + (newEnd == end ? 0 : 1);
            start = newStart;
            end = newEnd;
            return changes;
        }

        boolean isThereAt(int frame) {
            return start <= frame && end > frame;
        }

        boolean isOnRow(int asked) {
            return row != NONE && row <= asked && asked < row + lineCount;
        }
    }

    /** Breaks a cue into lines: the best way for each word to begin a line, from the last word back to the first. */
    private static final class LineBreaker {
        private final int[] leastLines = new int[MOST_WORDS + 1];
        private final int[] leastCost = new int[MOST_WORDS + 1];
        private final int[] firstWords = new int[MOST_WORDS + 1];

        void breakUp(Cue cue, int columns) {
            int words = Math.min(cue.wordCount, MOST_WORDS);
            leastLines[words] = 0;
            leastCost[words] = 0;
            for (int from = words - 1; from >= 0; from--) {
                chooseLine(cue, columns, from, words);
            }
            cue.lineCount = leastLines[0];
            int from = 0;
            for (int line = 0; line < leastLines[0] && line < MOST_WORDS && from < words; line++) {
                cue.lineWords[line] = firstWords[from];
                from += firstWords[from];
            }
        }

        private void chooseLine(Cue cue, int columns, int from, int words) {
            int length = cue.lettersOf(from);
            // a word that is longer than the columns leaves nothing over
            consider(from, from + 1, Math.max(0, columns - length), true);
            for (int last = from + 1; last < words; last++) {
                length += 1 + cue.lettersOf(last);
                if (length > columns) {
                    return;
                }
                consider(from, last + 1, columns - length, false);
            }
        }

        /** Only what is truly better is taken, so that of equal ways the one with fewer words ahead stays. */
        private void consider(int from, int behind, int leftOver, boolean isFirst) {
            int lines = 1 + leastLines[behind];
            int cost = leftOver * leftOver + leastCost[behind];
            boolean isBetter = lines < leastLines[from] || lines == leastLines[from] && cost < leastCost[from];
            if (isFirst || isBetter) {
                leastLines[from] = lines;
                leastCost[from] = cost;
                firstWords[from] = behind - from;
            }
        }
    }

    /** The cues in their order, and the regions where they take rows. */
    private static final class Stage {
        private final Cue[] cues = new Cue[MOST_CUES];
        private final int[] tops = new int[REGIONS];
        private final int[] heights = new int[REGIONS];
        private final int[] widths = new int[REGIONS];
        private final LineBreaker breaker = new LineBreaker();
        private final int[] order = new int[MOST_CUES];
        private int count;
        private final boolean[] isTaken = new boolean[ROWS];
        private final int[] holders = new int[ROWS];

        Stage() {
            for (int number = 0; number < MOST_CUES; number++) {
                cues[number] = new Cue();
            }
            Arrays.fill(heights, ROWS);
            Arrays.fill(widths, COLUMNS);
        }

        Cue cueIn(int place) {
            return cues[numberIn(place)];
        }

        int numberIn(int place) {
            return place >= 0 && place < MOST_CUES ? order[place] : 0;
        }

        void arrangeAll() {
            sortCues();
            for (int place = 0; place < count; place++) {
                Cue cue = cueIn(place);
                breaker.breakUp(cue, widths[cue.region]);
                takeRows(cue, place);
            }
        }

        private void sortCues() {
            count = 0;
            for (int number = 0; number < MOST_CUES; number++) {
                if (cues[number].isThere) {
                    insert(number);
                }
            }
        }

        private void insert(int number) {
            int place = count;
            while (place > 0 && cueIn(place - 1).start > cues[number].start) {
                order[place] = order[place - 1];
                place--;
            }
            order[place] = number;
            count++;
        }

        private void takeRows(Cue cue, int place) {
            for (int row = 0; row < ROWS; row++) {
                isTaken[row] = false;
            }
            for (int ahead = 0; ahead < place; ahead++) {
                Cue former = cueIn(ahead);
                for (int row = 0; row < ROWS && former.end > cue.start; row++) {
                    isTaken[row] = isTaken[row] || former.isOnRow(row);
                }
            }
            cue.row = lowestRows(cue);
        }

        private int lowestRows(Cue cue) {
            int top = tops[cue.region];
            int free = 0;
            for (int row = top + heights[cue.region] - 1; row >= top && cue.lineCount > 0; row--) {
                free = isTaken[row] ? 0 : free + 1;
                if (free == cue.lineCount) {
                    return row;
                }
            }
            return NONE;
        }

        int nextOfRegion(int place) {
            for (int next = place + 1; next < count; next++) {
                if (cueIn(next).region == cueIn(place).region) {
                    return next;
                }
            }
            return NONE;
        }

        int cueOn(int frame, int row) {
            for (int place = 0; place < count; place++) {
                Cue cue = cueIn(place);
                if (cue.isThereAt(frame) && cue.isOnRow(row)) {
                    return numberIn(place);
                }
            }
            return NONE;
        }

        /** Plays from the beginning: rows get free as their cues end, and each cue takes some as it comes. */
        void playTo(int frame) {
            Arrays.fill(holders, NONE);
            for (int place = 0; place < count && cueIn(place).start <= frame; place++) {
                Cue cue = cueIn(place);
                letGo(cue.start);
                for (int row = 0; row < ROWS; row++) {
                    isTaken[row] = holders[row] != NONE;
                }
                int first = lowestRows(cue);
                for (int line = 0; line < cue.lineCount && first != NONE && first + line < ROWS; line++) {
                    holders[first + line] = numberIn(place);
                }
            }
            letGo(frame);
        }

        private void letGo(int frame) {
            for (int row = 0; row < ROWS; row++) {
                if (holders[row] != NONE && cues[holders[row]].end <= frame) {
                    holders[row] = NONE;
                }
            }
        }

        int playedCueOn(int row) {
            return row >= 0 && row < ROWS ? holders[row] : NONE;
        }

        boolean hasClash() {
            for (int place = 0; place < count; place++) {
                for (int next = place + 1; next < count; next++) {
                    if (isClash(cueIn(place), cueIn(next))) {
                        return true;
                    }
                }
            }
            return false;
        }

        private static boolean isClash(Cue cue, Cue later) {
            for (int row = 0; row < ROWS && cue.end > later.start; row++) {
                if (cue.isOnRow(row) && later.isOnRow(row)) {
                    return true;
                }
            }
            return false;
        }
    }

    /** The cuts as they were told. */
    private static final class Cuts {
        private final int[] frames = new int[MOST_CUTS];
        private int count;

        void add(int frame) {
            if (count < MOST_CUTS) {
                frames[count] = frame;
                count++;
            }
        }

        int nearest(int frame) {
            int best = NONE;
            for (int place = 0; place < count && place < MOST_CUTS; place++) {
                int far = Math.abs(frames[place] - frame);
                int bestFar = Math.abs(best - frame);
                if (best == NONE || far < bestFar || far == bestFar && frames[place] < best) {
                    best = frames[place];
                }
            }
            return best;
        }

        int snapped(int frame, int reach) {
            int cut = nearest(frame);
            return cut != NONE && Math.abs(cut - frame) <= reach ? cut : frame;
        }
    }

    /** Frames as they are and where they should be, both rising. */
    private static final class Anchors {
        private final int[] frames = new int[MOST_ANCHORS];
        private final int[] targets = new int[MOST_ANCHORS];
        private int count;

        boolean areBelow(int frame, int target) {
            return count <= 0 || count > MOST_ANCHORS || frame > frames[count - 1] && target > targets[count - 1];
        }

        void add(int frame, int target) {
            if (count < MOST_ANCHORS) {
                frames[count] = frame;
                targets[count] = target;
                count++;
            }
        }

        long moved(int frame) {
            int place = 0;
            while (place + 1 < count && place + 1 < MOST_ANCHORS && frames[place + 1] <= frame) {
                place++;
            }
            int behind = frame - frames[place];
            if (behind < 0 || place + 1 >= count || place + 1 >= MOST_ANCHORS) {
                return targets[place] + behind;
            }
            return targets[place]
                    + scaled(behind, targets[place + 1] - targets[place], frames[place + 1] - frames[place]);
        }
    }

    /** The cheapest way to pair two rows in their order, some of either being left alone. */
    private static final class Alignment {
        private final int[][] prices = new int[MOST_CUES][MOST_HEARD];
        private final int[][] costs = new int[MOST_CUES + 1][MOST_HEARD + 1];
        private final int[] partners = new int[MOST_CUES];

        void setPrice(int first, int second, int price) {
            if (isIn(first, 0, MOST_CUES - 1) && isIn(second, 0, MOST_HEARD - 1)) {
                prices[first][second] = price;
            }
        }

        int partnerOf(int first) {
            return isIn(first, 0, MOST_CUES - 1) ? partners[first] : NONE;
        }

        /** Returns what the cheapest way costs; the partners are those of that way. */
        int align(int firsts, int seconds, int firstAlone, int secondAlone) {
            if (!isIn(firsts, 0, MOST_CUES) || !isIn(seconds, 0, MOST_HEARD)) {
                return 0;
            }
            costs[firsts][seconds] = 0;
            for (int second = seconds - 1; second >= 0; second--) {
                costs[firsts][second] = costs[firsts][second + 1] + secondAlone;
            }
            for (int first = firsts - 1; first >= 0; first--) {
                costs[first][seconds] = costs[first + 1][seconds] + firstAlone;
                for (int second = seconds - 1; second >= 0; second--) {
                    int alone = Math.min(costs[first + 1][second] + firstAlone,
                            costs[first][second + 1] + secondAlone);
                    costs[first][second] = Math.min(alone, pairedCost(first, second));
                }
            }
            choose(firsts, seconds, firstAlone);
            return costs[0][0];
        }

        private int pairedCost(int first, int second) {
            return prices[first][second] + costs[first + 1][second + 1];
        }

        /** Of equal ways, a pair goes ahead of a first one alone, and that ahead of a second one alone. */
        private void choose(int firsts, int seconds, int firstAlone) {
            int second = 0;
            for (int first = 0; first < firsts; first++) {
                // as long as neither a pair nor this one alone is on the cheapest way, the second one is alone
                while (second < seconds && costs[first][second] != pairedCost(first, second)
                        && costs[first][second] != costs[first + 1][second] + firstAlone) {
                    second++;
                }
                boolean isPair = second < seconds && costs[first][second] == pairedCost(first, second);
                partners[first] = isPair ? second : NONE;
                second += isPair ? 1 : 0;
            }
        }
    }

    /** The heard words as they were told. */
    private static final class Hearing {
        private final int[] frames = new int[MOST_HEARD];
        private final int[] words = new int[MOST_HEARD];
        private int count;
        private final int[] near = new int[MOST_HEARD];
        private int nearCount;

        void add(int frame, int word) {
            if (count < MOST_HEARD) {
                frames[count] = frame;
                words[count] = word;
                count++;
            }
        }

        int setTimes(Cue cue, Alignment alignment) {
            gatherNear(cue.start - HEARD_AROUND, cue.end + HEARD_AROUND);
            for (int word = 0; word < cue.wordCount && word < MOST_WORDS; word++) {
                for (int place = 0; place < nearCount; place++) {
                    boolean isSame = cue.words[word] == words[near[place]];
                    alignment.setPrice(word, place, isSame ? 0 : OTHER_WORD_COST);
                }
            }
            int cost = alignment.align(cue.wordCount, nearCount, NO_WORD_COST, LEFT_OUT_COST);
            for (int word = 0; word < cue.wordCount && word < MOST_WORDS; word++) {
                int place = alignment.partnerOf(word);
                cue.times[word] = isIn(place, 0, nearCount - 1) ? frames[near[place]] : NONE;
            }
            return cost;
        }

        /** Sorted anew each time, as conversion can make frames equal, whose words go then as they were told. */
        private void gatherNear(int first, int last) {
            nearCount = 0;
            for (int told = 0; told < count && told < MOST_HEARD; told++) {
                if (frames[told] >= first && frames[told] <= last) {
                    insert(told);
                }
            }
        }

        private void insert(int told) {
            int place = nearCount;
            while (place > 0 && frames[near[place - 1]] > frames[told]) {
                near[place] = near[place - 1];
                place--;
            }
            near[place] = told;
            nearCount++;
        }
    }

    /** The cues of the regions 1 and 2 in their order, and how they are paired. */
    private static final class Pairing {
        private final int[] firsts = new int[MOST_CUES];
        private final int[] seconds = new int[MOST_CUES];
        private int firstCount;
        private int secondCount;

        int pairAll(Stage stage, Alignment alignment) {
            firstCount = gather(stage, 1, firsts);
            secondCount = gather(stage, 2, seconds);
            for (int first = 0; first < firstCount; first++) {
                for (int second = 0; second < secondCount; second++) {
                    alignment.setPrice(first, second,
                            priceOf(stage.cues[firsts[first]], stage.cues[seconds[second]]));
                }
            }
            return alignment.align(firstCount, secondCount, ALONE_COST, ALONE_COST);
        }

        private static int gather(Stage stage, int region, int[] numbers) {
            int count = 0;
            for (int place = 0; place < stage.count && count < numbers.length; place++) {
                if (stage.cueIn(place).region == region) {
                    numbers[count] = stage.numberIn(place);
                    count++;
                }
            }
            return count;
        }

        private static int priceOf(Cue cue, Cue other) {
            return Math.abs(cue.start - other.start) + WORD_COST * Math.abs(cue.wordCount - other.wordCount);
        }

        int secondOf(int number, Alignment alignment) {
            for (int first = 0; first < firstCount; first++) {
                int second = alignment.partnerOf(first);
                if (firsts[first] == number && isIn(second, 0, secondCount - 1)) {
                    return seconds[second];
                }
            }
            return NONE;
        }

        int firstOf(int number, Alignment alignment) {
            for (int first = 0; first < firstCount; first++) {
                int second = alignment.partnerOf(first);
                if (isIn(second, 0, secondCount - 1) && seconds[second] == number) {
                    return firsts[first];
                }
            }
            return NONE;
        }
    }
}
