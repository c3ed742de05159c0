/** The boundary cases under 'Cues' and of the promises 12 to 23, sentence by sentence. */
public final class BoundsOfCuesTest {
    private static final Check CHECK = new Check("BoundsOfCuesTest");
    private static final int LAST = 99999;

    public static void main(String[] args) {
        mostCues();
        goneCues();
        ends();
        mostWords();
        lettersOfWords();
        regionsAtFirst();
        wrongRegions();
        wrongCues();
        longestLine();
        longerWord();
        fewestLines();
        leastSquares();
        longerWordLeavesNothing();
        fewestWordsFirst();
        noWords();
        linesThatAreNot();
        orderOfCues();
        lowestRows();
        rowsOneBelowTheOther();
        endsAndFirstFrames();
        notSoMany();
        cuesThatAreThere();
        rowsOfTheScreen();
        anewByAdding();
        anewByChanging();
        anewAtOnce();
        jumpsAndPlaying();
        CHECK.end();
    }

    /** A cue with words of as many letters as told. */
    private static int cue(SubtitleHarbour x, int start, int end, int region, int... letters) {
        int made = x.addCue(start, end, region);
        for (int count : letters) {
            x.addWord(made, count == 1 ? 9 : count - 1);
        }
        return made;
    }

    private static SubtitleHarbour withColumns(int columns, int... letters) {
        SubtitleHarbour x = new SubtitleHarbour();
        x.setRegion(0, 0, 8, columns);
        cue(x, 10, 20, 0, letters);
        return x;
    }

    private static String linesOf(SubtitleHarbour x, int cue) {
        StringBuilder text = new StringBuilder();
        for (int line = 0; line < x.lines(cue); line++) {
            text.append(line == 0 ? "" : " ").append(x.wordsIn(cue, line));
        }
        return text.toString();
    }

    private static void due(String want, int columns, int... letters) {
        String what = java.util.Arrays.toString(letters) + " in " + columns;
        CHECK.dueText(what, linesOf(withColumns(columns, letters), 0), want);
    }

    private static int[] times(int count, int letters) {
        int[] all = new int[count];
        java.util.Arrays.fill(all, letters);
        return all;
    }

    private static void mostCues() {
        CHECK.says("Returns how many cues are there.");
        SubtitleHarbour x = new SubtitleHarbour();
        CHECK.due("none", x.cues(), 0);
        CHECK.says("At most 24 cues have numbers from 0");
        for (int number = 0; number < 24; number++) {
            CHECK.due("number", cue(x, number, 99, number % 3), number);
            CHECK.due("cues", x.cues(), number + 1);
        }
        CHECK.says("Throws IllegalStateException if there were 24 cues");
        CHECK.badState("a 25th one", () -> x.addCue(0, 1, 0));
        CHECK.badState("another 25th one", () -> x.addCue(LAST - 1, LAST, 2));
        CHECK.due("cues", x.cues(), 24);
        CHECK.noSuch("the cue 24", () -> x.startOf(24));
    }

    private static void goneCues() {
        CHECK.says("cues that are gone keep their numbers");
        SubtitleHarbour x = new SubtitleHarbour();
        cue(x, 1, 9, 0, 1);
        cue(x, 2, 9, 0, 1);
        x.dropCue(0);
        CHECK.due("a new number", cue(x, 3, 9, 0), 2);
        CHECK.noSuch("the gone one", () -> x.startOf(0));
        CHECK.due("the others keep theirs", x.startOf(1), 2);
        x.merge(1, 2);
        CHECK.due("a new number behind a merge", cue(x, 4, 9, 0), 3);
        CHECK.noSuch("the merged one", () -> x.startOf(2));
        CHECK.noSuch("dropped twice", () -> x.dropCue(0));
        for (int number = 4; number < 24; number++) {
            CHECK.due("number", cue(x, number, 99, 0), number);
        }
        CHECK.badState("there were 24 cues, though not all are there", () -> x.addCue(0, 1, 0));
        CHECK.due("cues", x.cues(), 22);
        for (int number = 0; number < 24; number++) {
            if (number != 0 && number != 2) {
                x.dropCue(number);
            }
        }
        CHECK.due("none is there", x.cues(), 0);
        CHECK.badState("there were 24 cues, though none is there", () -> x.addCue(0, 1, 0));
    }

    private static void ends() {
        CHECK.says("A cue has a first frame and an end, which is the frame behind its last one");
        SubtitleHarbour x = new SubtitleHarbour();
        cue(x, 0, 1, 0, 1);
        cue(x, 99998, 99999, 0, 1);
        CHECK.due("the one frame", x.cueAt(0, 7), 0);
        CHECK.due("its end", x.cueAt(1, 7), -1);
        CHECK.due("ahead", x.cueAt(99997, 7), -1);
        CHECK.due("the last one", x.cueAt(99998, 7), 1);
        CHECK.due("the end", x.cueAt(99999, 7), -1);
        CHECK.due("frames", (long) x.meanLength(), 1);
        CHECK.due("endOf", x.endOf(1), 99999);
    }

    private static void mostWords() {
        CHECK.says("at most 12 words");
        SubtitleHarbour x = new SubtitleHarbour();
        x.addCue(0, 9, 0);
        x.addCue(0, 9, 0);
        for (int word = 1; word <= 12; word++) {
            CHECK.due("number of words", x.addWord(0, 9), word);
        }
        CHECK.says("Throws IllegalStateException if it has 12 words");
        CHECK.badState("a 13th one", () -> x.addWord(0, 1));
        CHECK.badState("a 13th one again", () -> x.addWord(0, 99));
        CHECK.due("another cue", x.addWord(1, 1), 1);
        CHECK.due("12 letters and 11 blanks", x.readingTime(0), 23 * 2000 + 12 * 300);
        CHECK.due("12 are gone", x.dropCue(0), 12);
        CHECK.says("Throws IllegalArgumentException if it is no word");
        for (int word : new int[] {0, 100, -1, Integer.MIN_VALUE, Integer.MAX_VALUE}) {
            CHECK.badArgument("word " + word, () -> x.addWord(1, word));
        }
        CHECK.says("A word is a number from 1 to 99");
        CHECK.due("1", x.addWord(1, 1), 2);
        CHECK.due("99", x.addWord(1, 99), 3);
    }

    private static void lettersOfWords() {
        CHECK.says("it has 1 letter more than its remainder by 9");
        for (int word = 1; word <= 99; word++) {
            SubtitleHarbour x = new SubtitleHarbour();
            x.addCue(0, 30, 0);
            x.addWord(0, word);
            CHECK.dueReal("letters of " + word, x.speed(0), 1 + word % 9);
        }
    }

    private static void regionsAtFirst() {
        CHECK.says("There are the regions 0 to 2, each with a first row, a number of rows, and columns; at first they"
                + " have the rows 0 to 7 and 20 columns.");
        for (int region = 0; region < 3; region++) {
            SubtitleHarbour x = new SubtitleHarbour();
            cue(x, 0, 9, region, 9, 9, 9, 9, 9, 9, 9, 9);
            CHECK.due("20 columns take two of them", x.lines(0), 4);
            for (int row = 3; row >= 0; row--) {
                CHECK.due("8 rows", x.rowOf(cue(x, 0, 9, region, 1)), row);
            }
            CHECK.due("the rows are 0 to 7", x.rowOf(cue(x, 0, 9, region, 1)), -1);
            CHECK.due("columns before", x.setRegion(region, 0, 8, 19), 20);
            CHECK.due("columns before that", x.setRegion(region, 0, 8, 19), 19);
            CHECK.due("19 columns take two of them, too", x.lines(0), 4);
            x.setRegion(region, 0, 8, 18);
            CHECK.due("18 columns take one", x.lines(0), 8);
        }
    }

    private static void wrongRegions() {
        CHECK.says("Throws IllegalArgumentException if there is no such region, or a number is out of range");
        SubtitleHarbour x = new SubtitleHarbour();
        int[][] wrong = {{-1, 0, 8, 20}, {3, 0, 8, 20}, {Integer.MAX_VALUE, 0, 8, 20}, {Integer.MIN_VALUE, 0, 8, 20},
            {0, -1, 8, 20}, {0, -1, 1, 20}, {0, 8, 1, 20}, {0, 1, 8, 20}, {0, 7, 2, 20}, {0, 0, 0, 20}, {0, 0, 9, 20},
            {0, 7, 0, 20}, {0, 0, -1, 20}, {0, Integer.MAX_VALUE, 1, 20}, {0, 1, Integer.MAX_VALUE, 20},
            {0, Integer.MAX_VALUE, Integer.MAX_VALUE, 20}, {0, Integer.MIN_VALUE, 1, 20}, {0, -1, Integer.MIN_VALUE, 20},
            {0, 0, 8, 4}, {0, 0, 8, 41}, {0, 0, 8, 0}, {0, 0, 8, -20}, {0, 0, 8, Integer.MAX_VALUE}};
        for (int[] w : wrong) {
            CHECK.badArgument("setRegion " + java.util.Arrays.toString(w), () -> x.setRegion(w[0], w[1], w[2], w[3]));
        }
        CHECK.says("the number of rows, 1 to 8, all from 0 to 7");
        cue(x, 0, 9, 1, 1);
        for (int top = 0; top < 8; top++) {
            x.setRegion(1, top, 1, 5);
            CHECK.due("one row", x.rowOf(0), top);
            x.setRegion(1, top, 8 - top, 5);
            CHECK.due("down to the last row", x.rowOf(0), 7);
            int t = top;
            CHECK.badArgument("a row too many", () -> x.setRegion(1, t, 9 - t, 5));
        }
        CHECK.says("the columns, 5 to 40");
        CHECK.due("5", x.setRegion(1, 0, 8, 40), 5);
        CHECK.due("40", x.setRegion(1, 0, 8, 5), 40);
    }

    private static void wrongCues() {
        CHECK.says("Throws IllegalArgumentException if there is no such frame, for either, the end is not greater, or"
                + " there is no such region");
        SubtitleHarbour x = new SubtitleHarbour();
        int[][] wrong = {{-1, 5, 0}, {99999, 100000, 0}, {5, 100000, 0}, {-2, -1, 0}, {100000, 100001, 0}, {5, 5, 0},
            {0, 0, 0}, {99999, 99999, 0}, {6, 5, 0}, {99999, 0, 0}, {5, 6, -1}, {5, 6, 3},
            {Integer.MIN_VALUE, Integer.MAX_VALUE, 0}, {5, 6, Integer.MIN_VALUE}, {5, 6, Integer.MAX_VALUE}};
        for (int[] w : wrong) {
            CHECK.badArgument("addCue " + java.util.Arrays.toString(w), () -> x.addCue(w[0], w[1], w[2]));
        }
        CHECK.due("no number is used for these", x.addCue(0, 99999, 2), 0);
        CHECK.due("words", x.dropCue(0), 0);
    }

    private static void longestLine() {
        CHECK.says("words stand in lines with one blank between two; the longest length of a line is the columns of"
                + " the region");
        due("2", 5, 2, 2);
        due("1 1", 5, 2, 3);
        due("1 1", 5, 3, 2);
        due("3", 5, 1, 1, 1);
        due("2 2", 5, 1, 1, 1, 1);
        due("2", 19, 9, 9);
        due("1 1", 18, 9, 9);
        due("12", 40, times(12, 1));
        due("8", 40, 4, 4, 4, 4, 4, 4, 4, 5);
        due("4 4", 40, 4, 4, 4, 4, 4, 4, 5, 5);
        due("3", 7, 1, 2, 2);
    }

    private static void longerWord() {
        CHECK.says("but a longer word takes a line by itself");
        due("1", 5, 6);
        due("1", 5, 9);
        due("1 1", 5, 6, 1);
        due("1 1", 5, 1, 6);
        due("1 1 1", 5, 1, 6, 1);
        due("1 1", 5, 9, 9);
        due("1 1", 8, 9, 1);
        due("1 2 1 3", 5, 9, 1, 1, 8, 1, 1, 1);
        due("1 1 1 1 1 1 1 1 1 1 1 1", 5, times(12, 9));
        CHECK.due("a word as long as a line is no longer one", withColumns(9, 9, 9).lines(0), 2);
    }

    private static void fewestLines() {
        CHECK.says("Lines are as few as can be");
        // two lines leave 0 and 81 over, three would leave 1 and 4 and 16
        due("1 1", 10, 10 - 1, 1);
        due("1 2", 10, 9, 4, 5);
        due("2 1", 10, 5, 4, 9);
        due("1 5", 10, 9, 1, 1, 1, 1, 1);
        due("4 4 4", 40, times(12, 9));
    }

    private static void leastSquares() {
        CHECK.says("of the ways to break a cue into so many lines, that one is taken for which the sum of the squares"
                + " of what is left over in each line is least");
        // 10 and 4 left over, or 5 and 9: 116 or 106
        due("2 2", 15, 5, 4, 4, 1);
        // 3 + 3 of 7 letters leave 0 and 9, 0 and 4, or so
        due("2 2", 9, 3, 3, 3, 3);
        due("2 1", 9, 1, 1, 9);
        due("1 2", 9, 9, 1, 1);
        // the sum alone would be the same for all ways
        due("2 2", 11, 2, 3, 3, 2);
        // lines of one word count as well: 16 and 16, or 4 and 36
        due("1 2", 9, 5, 1, 3);
        due("2 2 2", 8, 3, 3, 3, 3, 3, 3);
        due("6 6", 20, times(12, 1));
    }

    private static void longerWordLeavesNothing() {
        CHECK.says("what is left over in a line with a longer word being 0");
        // the others are broken as if they were alone
        due("1 1 2", 7, 9, 3, 3, 3);
        due("1 2 1", 7, 3, 3, 3, 9);
        due("2 2 1 2 2", 5, 2, 1, 2, 1, 9, 2, 1, 2, 1);
        // with columns as long as the word there is nothing over, either
        due("1 2", 9, 9, 4, 4);
    }

    private static void fewestWordsFirst() {
        CHECK.says("of several, the one whose first line has the fewest words, then the second one, and so on");
        due("1 2", 5, 2, 2, 2);
        due("2 3", 5, 1, 1, 1, 1, 1);
        due("2 3 3", 5, 1, 1, 1, 1, 1, 1, 1, 1);
        due("2 2 3", 5, 1, 1, 1, 1, 1, 1, 1);
        due("1 2 2", 5, 2, 2, 2, 2, 2);
        due("3 3 3 3", 5, times(12, 1));
        due("2 3 3 3", 5, times(11, 1));
    }

    private static void noWords() {
        CHECK.says("A cue without words has no line.");
        SubtitleHarbour x = new SubtitleHarbour();
        cue(x, 0, 9, 0);
        CHECK.due("lines", x.lines(0), 0);
        CHECK.due("row", x.rowOf(0), -1);
        CHECK.noIndex("its line 0", () -> x.wordsIn(0, 0));
        for (int row = 0; row < 8; row++) {
            CHECK.due("no row", x.cueAt(0, row), -1);
            CHECK.due("no row, anew", x.cueAnew(0, row), -1);
        }
        cue(x, 0, 9, 0, 1);
        CHECK.due("it takes no row from others", x.rowOf(1), 7);
        CHECK.due("no row beside others", x.rowOf(cue(x, 1, 9, 0)), -1);
    }

    private static void linesThatAreNot() {
        CHECK.says("Throws IndexOutOfBoundsException if there is no such line");
        SubtitleHarbour x = withColumns(5, 5, 5);
        for (int line : new int[] {-1, 2, 3, 12, Integer.MIN_VALUE, Integer.MAX_VALUE}) {
            CHECK.noIndex("line " + line, () -> x.wordsIn(0, line));
        }
        CHECK.due("line 1", x.wordsIn(0, 1), 1);
        SubtitleHarbour y = withColumns(5, times(12, 9));
        CHECK.due("12 lines", y.lines(0), 12);
        CHECK.due("line 11", y.wordsIn(0, 11), 1);
        CHECK.noIndex("line 12", () -> y.wordsIn(0, 12));
        CHECK.due("more lines than rows", y.rowOf(0), -1);
    }

    private static void orderOfCues() {
        CHECK.says("cues take rows in the order of their first frames, of several with the same by rising numbers");
        SubtitleHarbour x = new SubtitleHarbour();
        cue(x, 12, 90, 0, 1);
        cue(x, 10, 90, 1, 1);
        cue(x, 11, 90, 2, 1);
        cue(x, 10, 90, 0, 1);
        cue(x, 11, 90, 1, 1);
        int[] want = {3, 7, 5, 6, 4};
        for (int number = 0; number < 5; number++) {
            CHECK.due("row of " + number, x.rowOf(number), want[number]);
        }
    }

    private static void lowestRows() {
        CHECK.says("the lowest ones on the screen, with the greatest numbers, that no cue has taken that came ahead");
        SubtitleHarbour x = new SubtitleHarbour();
        x.setRegion(0, 2, 5, 5);
        CHECK.due("the last row of the region", x.rowOf(cue(x, 0, 90, 0, 1)), 6);
        CHECK.due("two above", x.rowOf(cue(x, 1, 90, 0, 5, 5)), 4);
        CHECK.due("the first rows", x.rowOf(cue(x, 2, 90, 0, 5, 5)), 2);
        CHECK.due("none is left", x.rowOf(cue(x, 3, 90, 0, 1)), -1);
        CHECK.due("below and above the region", x.cueAt(50, 7) + x.cueAt(50, 1), -2);
        CHECK.due("the first row of the two", x.cueAt(50, 4), 1);
        CHECK.due("the second one", x.cueAt(50, 5), 1);
    }

    private static void rowsOneBelowTheOther() {
        CHECK.says("A cue takes as many rows as it has lines, one below the other, in its region");
        SubtitleHarbour x = new SubtitleHarbour();
        x.setRegion(0, 0, 8, 5);
        CHECK.due("8 lines in 8 rows", x.rowOf(cue(x, 0, 10, 0, times(8, 5))), 0);
        CHECK.due("9 lines", x.rowOf(cue(x, 20, 30, 0, times(9, 5))), -1);
        CHECK.due("none is left at the same time", x.rowOf(cue(x, 9, 10, 0, 1)), -1);
        CHECK.due("8 lines again", x.rowOf(cue(x, 10, 20, 0, times(8, 5))), 0);
        CHECK.due("all rows are taken", x.rowOf(cue(x, 19, 20, 0, 1)), -1);
        SubtitleHarbour y = new SubtitleHarbour();
        y.setRegion(0, 4, 4, 5);
        cue(y, 0, 5, 0, 1);
        cue(y, 1, 20, 0, 1);
        CHECK.due("above the one that is taken", y.rowOf(cue(y, 6, 10, 0, 5, 5)), 4);
        CHECK.due("between them", y.rowOf(cue(y, 7, 10, 0, 1)), 7);
        SubtitleHarbour z = new SubtitleHarbour();
        z.setRegion(0, 5, 3, 5);
        cue(z, 0, 5, 0, 1);
        cue(z, 1, 20, 0, 1);
        CHECK.due("two rows are free, but not one below the other", z.rowOf(cue(z, 5, 10, 0, 5, 5)), -1);
        CHECK.due("which takes none of them", z.rowOf(cue(z, 6, 10, 0, 1)), 7);
        CHECK.due("nor the one above", z.rowOf(cue(z, 7, 10, 0, 1)), 5);
    }

    private static void endsAndFirstFrames() {
        CHECK.says("and whose end is greater than its first frame");
        SubtitleHarbour x = new SubtitleHarbour();
        cue(x, 10, 20, 0, 1);
        CHECK.due("begins as it ends", x.rowOf(cue(x, 20, 25, 0, 1)), 7);
        CHECK.due("begins at its last frame", x.rowOf(cue(x, 19, 20, 0, 1)), 6);
        CHECK.due("ends as it begins", x.rowOf(cue(x, 5, 10, 0, 1)), 7);
        CHECK.due("ends behind its first frame", x.rowOf(cue(x, 6, 11, 0, 1)), 6);
        CHECK.due("which takes a row from it", x.rowOf(0), 7);
    }

    private static void notSoMany() {
        CHECK.says("if there are not so many, it has none and is not shown");
        SubtitleHarbour x = new SubtitleHarbour();
        x.setRegion(0, 5, 3, 5);
        cue(x, 0, 50, 0, 5, 5);
        CHECK.due("one row is left for two lines", x.rowOf(cue(x, 10, 50, 0, 5, 5)), -1);
        for (int row = 0; row < 8; row++) {
            CHECK.due("row " + row, x.cueAt(20, row), row >= 6 ? 0 : -1);
            CHECK.due("row anew " + row, x.cueAnew(20, row), row >= 6 ? 0 : -1);
        }
        CHECK.due("it takes none from others", x.rowOf(cue(x, 11, 50, 0, 1)), 5);
        CHECK.due("it takes none later, either", x.cueAt(49, 5), 2);
        CHECK.due("its lines are there", x.lines(1), 2);
        CHECK.due("sound", x.isSound(), true);
    }

    private static void cuesThatAreThere() {
        CHECK.says("Cues that are there at a frame are those whose first frame is not greater, and whose end is.");
        SubtitleHarbour x = new SubtitleHarbour();
        cue(x, 10, 12, 0, 1);
        cue(x, 0, 1, 0, 1);
        cue(x, 99998, 99999, 0, 1);
        int[][] want = {{0, 1}, {1, -1}, {9, -1}, {10, 0}, {11, 0}, {12, -1}, {99997, -1}, {99998, 2}, {99999, -1}};
        for (int[] w : want) {
            CHECK.due("cueAt " + w[0], x.cueAt(w[0], 7), w[1]);
            CHECK.due("cueAnew " + w[0], x.cueAnew(w[0], 7), w[1]);
            CHECK.due("the row above at " + w[0], x.cueAt(w[0], 6), -1);
        }
        CHECK.says("Throws IllegalArgumentException if there is no such frame or row");
        for (int row : new int[] {-1, 8, Integer.MIN_VALUE, Integer.MAX_VALUE}) {
            CHECK.badArgument("cueAt row " + row, () -> x.cueAt(10, row));
            CHECK.badArgument("cueAnew row " + row, () -> x.cueAnew(10, row));
        }
        CHECK.due("row 0", x.cueAt(10, 0) + x.cueAnew(10, 0), -2);
    }

    private static void rowsOfTheScreen() {
        CHECK.says("Rows are those of the screen for all regions, whatever the columns.");
        SubtitleHarbour x = new SubtitleHarbour();
        x.setRegion(0, 6, 2, 5);
        x.setRegion(1, 5, 2, 20);
        x.setRegion(2, 7, 1, 40);
        CHECK.due("region 0", x.rowOf(cue(x, 0, 50, 0, 1)), 7);
        CHECK.due("region 1", x.rowOf(cue(x, 1, 50, 1, 1)), 6);
        CHECK.due("region 2, whose row is taken", x.rowOf(cue(x, 2, 50, 2, 1)), -1);
        CHECK.due("region 0, whose rows are taken", x.rowOf(cue(x, 3, 50, 0, 1)), -1);
        CHECK.due("region 1, whose other row is free", x.rowOf(cue(x, 4, 50, 1, 1)), 5);
    }

    private static void anewByAdding() {
        CHECK.says("All of it is so anew when something is changed.");
        SubtitleHarbour x = new SubtitleHarbour();
        x.setRegion(0, 0, 8, 5);
        cue(x, 10, 20, 0, 5);
        CHECK.due("alone", x.rowOf(0), 7);
        cue(x, 5, 15, 0, 5);
        CHECK.due("by addCue", x.rowOf(0), 6);
        x.addWord(1, 4);
        CHECK.due("by addWord", x.rowOf(0), 5);
        x.setRegion(0, 0, 8, 11);
        CHECK.due("by setRegion, the lines", x.lines(1), 1);
        CHECK.due("by setRegion, the rows", x.rowOf(0), 6);
        x.setRegion(0, 0, 4, 11);
        CHECK.due("by setRegion, fewer rows", x.rowOf(0), 2);
        CHECK.due("what is at the frame", x.cueAt(12, 2), 0);
        x.dropCue(1);
        CHECK.due("by dropCue", x.rowOf(0), 3);
        CHECK.due("what is at the frame then", x.cueAt(12, 3), 0);
        CHECK.due("and anew", x.cueAnew(12, 3), 0);
    }

    /** Two cues, 10 to 20 and 20 to 40, each in row 7, which is asked so that it is known ahead of the change. */
    private static SubtitleHarbour oneAfterTheOther() {
        SubtitleHarbour x = new SubtitleHarbour();
        cue(x, 10, 20, 0, 9);
        cue(x, 20, 40, 0, 9, 9, 9);
        CHECK.due("the first one", x.rowOf(0), 7);
        CHECK.due("the second one", x.rowOf(1), 6);
        return x;
    }

    private static void anewByChanging() {
        SubtitleHarbour snapped = new SubtitleHarbour();
        cue(snapped, 10, 22, 0, 9);
        cue(snapped, 20, 40, 0, 9);
        CHECK.due("both at once", snapped.rowOf(1), 6);
        snapped.addCut(21);
        CHECK.due("a cut alone changes nothing", snapped.rowOf(1), 6);
        snapped.snap(1);
        CHECK.due("by snap, one after the other", snapped.rowOf(1), 7);
        CHECK.due("by snap, at a frame", snapped.cueAt(21, 7), 1);
        SubtitleHarbour longer = oneAfterTheOther();
        longer.addCue(35, 36, 0);
        longer.addWord(2, 5);
        CHECK.due("a row above the second one", longer.rowOf(2), 5);
        longer.stretch(1, 6);
        CHECK.due("by stretch, the second one ends ahead", longer.rowOf(2), 7);
        longer.setRegion(0, 0, 8, 40);
        longer.addCue(28, 30, 0);
        longer.addWord(3, 5);
        CHECK.due("a row above the second one again", longer.rowOf(3), 6);
        longer.stretch(1, 0);
        CHECK.due("by stretch, the second one ends", longer.rowOf(3), 7);
        SubtitleHarbour merged = oneAfterTheOther();
        merged.addCue(25, 30, 0);
        CHECK.due("one without words changes nothing", merged.rowOf(1), 6);
        merged.merge(2, 0);
        CHECK.due("by merge, the first one is gone", merged.rowOf(1), 5);
        CHECK.due("by merge, from the beginning on", merged.rowOf(2), 7);
        SubtitleHarbour split = oneAfterTheOther();
        split.split(1, 2);
        CHECK.due("by split, the first part", split.rowOf(1), 7);
        CHECK.due("by split, the second part", split.rowOf(2), 7);
        SubtitleHarbour converted = oneAfterTheOther();
        converted.convert(1, 20);
        CHECK.due("by convert, 0 to 1 and 1 to 2", converted.rowOf(1), 6);
        converted.convert(1, 2);
        CHECK.due("by convert, 0 to 1 both", converted.rowOf(1), 5);
        SubtitleHarbour drifted = oneAfterTheOther();
        drifted.addAnchor(10, 10);
        drifted.addAnchor(20, 11);
        drifted.addAnchor(21, 12);
        drifted.drift();
        CHECK.due("by drift, still one after the other", drifted.rowOf(1), 6);
        drifted.addAnchor(10, 0);
        drifted.addAnchor(12, 1);
        drifted.drift();
        CHECK.due("by drift, sound at once", drifted.isSound(), true);
        CHECK.due("by drift, both at once", drifted.rowOf(1), 5);
        CHECK.due("and anew", drifted.cueAnew(0, 5), 1);
    }

    private static void anewAtOnce() {
        SubtitleHarbour x = new SubtitleHarbour();
        x.addCue(10, 20, 0);
        CHECK.due("without a word", x.cueAnew(15, 7), -1);
        x.addWord(0, 1);
        CHECK.due("with a word, anew", x.cueAnew(15, 7), 0);
        x.dropCue(0);
        CHECK.due("gone, by a jump", x.cueAt(15, 7), -1);
        cue(x, 15, 16, 0, 1);
        CHECK.due("another one, by a jump", x.cueAt(15, 7), 1);
        x.dropCue(1);
        CHECK.due("gone, anew", x.cueAnew(15, 7), -1);
        cue(x, 5, 6, 1, 1);
        CHECK.due("sound", x.isSound(), true);
        CHECK.due("its cost", x.pairCost(), 40);
        x.dropCue(2);
        CHECK.due("no cost", x.pairCost(), 0);
        cue(x, 5, 6, 1, 1);
        cue(x, 5, 6, 2, 1);
        CHECK.due("a pair", x.pairOf(3), 4);
    }

    private static void jumpsAndPlaying() {
        CHECK.says("What is shown at a frame is the same by jumping to it as by playing.");
        SubtitleHarbour x = new SubtitleHarbour();
        x.setRegion(1, 2, 3, 9);
        for (int number = 0; number < 12; number++) {
            cue(x, 60 - 5 * number, 63 - 3 * number, number % 3, 9, number % 9 + 1);
        }
        x.code(5, 'd', 0);
        for (int frame = 10; frame < 30; frame += 2) {
            x.code(frame, 't', frame - 9);
        }
        for (int frame : new int[] {62, 0, 31, 5, 61, 30, 29, 28, 64, 20, 10, 99999}) {
            for (int row = 0; row < 8; row++) {
                CHECK.due("cue at " + frame, x.cueAnew(frame, row), x.cueAt(frame, row));
                CHECK.due("cell at " + frame, x.cellAnew(frame, 7, row), x.cellAt(frame, 7, row));
            }
        }
        CHECK.due("sound", x.isSound(), true);
    }
}
