/** Promises 12 to 23: regions, cues, their lines and rows. */
public final class CuesTest {
    private static final Check CHECK = new Check("CuesTest");

    public static void main(String[] args) {
        regions();
        addingCues();
        mostCues();
        words();
        dropping();
        noSuchCue();
        lineBreaks();
        rows();
        rowsOfAllRegions();
        rowsAreOneBelowTheOther();
        rowsAnew();
        jumps();
        CHECK.end();
    }

    /** A word has one letter more than its remainder by 9, so that these are the words of 1 to 9 letters. */
    private static void addLengths(SubtitleHarbour x, int cue, int... lengths) {
        for (int length : lengths) {
            x.addWord(cue, length == 1 ? 9 : length - 1);
        }
    }

    private static void regions() {
        SubtitleHarbour x = new SubtitleHarbour();
        int[][] wrong = {{-1, 0, 1, 5}, {3, 0, 1, 5}, {0, -1, 1, 5}, {0, 8, 1, 5}, {0, 0, 0, 5}, {0, 0, 9, 5},
            {0, 7, 2, 5}, {0, 1, 8, 5}, {0, 0, 1, 4}, {0, 0, 1, 41}, {0, Integer.MAX_VALUE, 1, 5},
            {0, 1, Integer.MAX_VALUE, 5}, {0, 0, 1, Integer.MIN_VALUE}};
        for (int[] w : wrong) {
            CHECK.badArgument("setRegion", () -> x.setRegion(w[0], w[1], w[2], w[3]));
        }
        CHECK.due("columns at first", x.setRegion(2, 7, 1, 40), 20);
        CHECK.due("columns before", x.setRegion(2, 0, 8, 5), 40);
        CHECK.due("columns before that", x.setRegion(2, 0, 8, 20), 5);
        CHECK.due("another region", x.setRegion(0, 0, 8, 20), 20);
    }

    private static void addingCues() {
        SubtitleHarbour x = new SubtitleHarbour();
        int[][] wrong = {{-1, 5, 0}, {5, 100000, 0}, {100000, 100001, 0}, {5, 5, 0}, {6, 5, 0}, {5, 6, -1}, {5, 6, 3}};
        for (int[] w : wrong) {
            CHECK.badArgument("addCue", () -> x.addCue(w[0], w[1], w[2]));
        }
        CHECK.due("the first cue", x.addCue(0, 99999, 2), 0);
        CHECK.due("the second cue", x.addCue(99998, 99999, 0), 1);
        CHECK.due("cues", x.cues(), 2);
        CHECK.due("startOf", x.startOf(1), 99998);
        CHECK.due("endOf", x.endOf(0), 99999);
        CHECK.due("no lines", x.lines(0), 0);
        CHECK.due("no row", x.rowOf(0), -1);
        CHECK.noIndex("no line", () -> x.wordsIn(0, 0));
        CHECK.due("not shown", x.cueAt(5, 7), -1);
    }

    private static void mostCues() {
        SubtitleHarbour x = new SubtitleHarbour();
        for (int cue = 0; cue < 24; cue++) {
            CHECK.due("number", x.addCue(cue, 100, 0), cue);
        }
        CHECK.badState("25 cues", () -> x.addCue(0, 1, 0));
        CHECK.badArgument("wrong arguments go ahead", () -> x.addCue(1, 1, 0));
        x.dropCue(3);
        CHECK.badState("there were 24 cues", () -> x.addCue(0, 1, 0));
        CHECK.due("cues", x.cues(), 23);
        x.addWord(0, 1);
        x.addWord(0, 2);
        CHECK.badState("no split with 24 cues", () -> x.split(0, 1));
        CHECK.badArgument("a wrong split goes ahead", () -> x.split(0, 2));
    }

    private static void words() {
        SubtitleHarbour x = new SubtitleHarbour();
        x.addCue(0, 10, 0);
        CHECK.badArgument("word 0", () -> x.addWord(0, 0));
        CHECK.badArgument("word 100", () -> x.addWord(0, 100));
        for (int word = 1; word <= 12; word++) {
            CHECK.due("addWord", x.addWord(0, word == 1 ? 1 : 99), word);
        }
        CHECK.badState("13 words", () -> x.addWord(0, 1));
        CHECK.badArgument("a wrong word goes ahead", () -> x.addWord(0, 100));
        CHECK.noSuch("no cue goes ahead", () -> x.addWord(1, 100));
        CHECK.due("12 words", x.dropCue(0), 12);
    }

    private static void dropping() {
        SubtitleHarbour x = new SubtitleHarbour();
        x.addCue(0, 10, 0);
        x.addCue(0, 10, 0);
        addLengths(x, 0, 3);
        addLengths(x, 1, 3);
        CHECK.due("row of the second", x.rowOf(1), 6);
        CHECK.due("dropCue", x.dropCue(0), 1);
        CHECK.due("cues", x.cues(), 1);
        CHECK.due("the row gets free", x.rowOf(1), 7);
        CHECK.due("numbers are kept", x.addCue(5, 6, 0), 2);
        CHECK.noSuch("dropped", () -> x.dropCue(0));
        CHECK.due("without words", x.dropCue(2), 0);
    }

    private static void noSuchCue() {
        SubtitleHarbour x = new SubtitleHarbour();
        x.addCue(0, 10, 0);
        x.addCue(0, 10, 0);
        x.dropCue(0);
        for (int cue : new int[] {-1, 0, 2, 24, Integer.MAX_VALUE, Integer.MIN_VALUE}) {
            CHECK.noSuch("addWord " + cue, () -> x.addWord(cue, 0));
            CHECK.noSuch("dropCue " + cue, () -> x.dropCue(cue));
            CHECK.noSuch("startOf " + cue, () -> x.startOf(cue));
            CHECK.noSuch("endOf " + cue, () -> x.endOf(cue));
            CHECK.noSuch("lines " + cue, () -> x.lines(cue));
            CHECK.noSuch("wordsIn " + cue, () -> x.wordsIn(cue, -1));
            CHECK.noSuch("rowOf " + cue, () -> x.rowOf(cue));
            CHECK.noSuch("merge " + cue, () -> x.merge(cue, cue));
            CHECK.noSuch("merge with " + cue, () -> x.merge(1, cue));
            CHECK.noSuch("split " + cue, () -> x.split(cue, 0));
            CHECK.noSuch("hear " + cue, () -> x.hear(cue));
            CHECK.noSuch("timeOf " + cue, () -> x.timeOf(cue, -1));
            CHECK.noSuch("sung " + cue, () -> x.sung(cue, -1));
            CHECK.noSuch("pairOf " + cue, () -> x.pairOf(cue));
            CHECK.noSuch("readingTime " + cue, () -> x.readingTime(cue));
            CHECK.noSuch("speed " + cue, () -> (long) x.speed(cue));
        }
    }

    private static void dueLines(int columns, int[] lengths, int... want) {
        SubtitleHarbour x = new SubtitleHarbour();
        x.setRegion(1, 0, 8, columns);
        x.addCue(0, 10, 1);
        addLengths(x, 0, lengths);
        CHECK.due("lines", x.lines(0), want.length);
        for (int line = 0; line < want.length; line++) {
            CHECK.due("words of line " + line + " in " + columns + " columns", x.wordsIn(0, line), want[line]);
        }
        CHECK.noIndex("a line too many", () -> x.wordsIn(0, want.length));
        CHECK.noIndex("line -1", () -> x.wordsIn(0, -1));
    }

    private static void lineBreaks() {
        dueLines(5, new int[] {5}, 1);
        dueLines(5, new int[] {2, 2}, 2);
        dueLines(5, new int[] {2, 3}, 1, 1);
        // a longer word is a line by itself, first, last and between
        dueLines(5, new int[] {9}, 1);
        dueLines(5, new int[] {1, 6, 1, 1}, 1, 1, 2);
        dueLines(5, new int[] {6, 6, 6}, 1, 1, 1);
        // what is left over is even: 5 and 6 columns rather than 0 and 11
        dueLines(15, new int[] {5, 4, 4, 4}, 2, 2);
        dueLines(10, new int[] {4, 1, 3, 2, 2}, 2, 3);
        // as few lines as can be, though three would be more even
        dueLines(10, new int[] {9, 1, 1, 1, 1, 1}, 1, 5);
        // of several ways, the first line has the fewest words
        dueLines(5, new int[] {1, 1, 1, 1, 1}, 2, 3);
        dueLines(5, new int[] {1, 1, 1, 1}, 2, 2);
        dueLines(5, new int[] {1, 1, 1, 1, 1, 1, 1, 1}, 2, 3, 3);
        dueLines(5, new int[] {1, 1, 1, 1, 1, 1, 1}, 2, 2, 3);
        // a longer word leaves nothing over, so that its neighbours do not care for it
        dueLines(7, new int[] {9, 3, 3, 3}, 1, 1, 2);
        dueLines(40, new int[] {9, 9, 9, 9, 9, 9, 9, 9, 9, 9, 9, 9}, 4, 4, 4);
        dueLines(40, new int[] {1, 1, 1, 1, 1, 1, 1, 1, 1, 1, 1, 1}, 12);
        dueLines(5, new int[] {9, 9, 9, 9, 9, 9, 9, 9, 9, 9, 9, 9}, 1, 1, 1, 1, 1, 1, 1, 1, 1, 1, 1, 1);
    }

    private static void rows() {
        SubtitleHarbour x = new SubtitleHarbour();
        x.setRegion(0, 2, 4, 5);
        x.addCue(10, 20, 0);
        x.addCue(20, 30, 0);
        x.addCue(15, 40, 0);
        x.addCue(15, 25, 0);
        addLengths(x, 0, 5, 5);
        addLengths(x, 1, 5, 5);
        addLengths(x, 2, 5);
        addLengths(x, 3, 5);
        CHECK.due("first in the order", x.rowOf(0), 4);
        CHECK.due("second in the order", x.rowOf(2), 3);
        CHECK.due("third, with the same first frame", x.rowOf(3), 2);
        CHECK.due("the rows are free as the first one ends", x.rowOf(1), 4);
        addLengths(x, 3, 5);
        CHECK.due("not so many rows", x.rowOf(3), -1);
        CHECK.due("not shown", x.cueAt(16, 2), -1);
        CHECK.due("its lines are there", x.lines(3), 2);
        x.addCue(16, 17, 0);
        addLengths(x, 4, 1);
        CHECK.due("a cue without rows takes none", x.rowOf(4), 2);
        CHECK.due("sound", x.isSound(), true);
    }

    private static void rowsOfAllRegions() {
        SubtitleHarbour x = new SubtitleHarbour();
        x.setRegion(1, 6, 2, 5);
        x.setRegion(2, 0, 7, 40);
        x.addCue(0, 10, 1);
        x.addCue(5, 10, 2);
        x.addCue(5, 10, 0);
        x.addCue(9, 12, 1);
        addLengths(x, 0, 1);
        addLengths(x, 1, 1);
        addLengths(x, 2, 1);
        addLengths(x, 3, 1);
        CHECK.due("region 1", x.rowOf(0), 7);
        CHECK.due("region 2", x.rowOf(1), 6);
        CHECK.due("region 0", x.rowOf(2), 5);
        CHECK.due("region 1 is full", x.rowOf(3), -1);
        x.setRegion(1, 3, 5, 5);
        CHECK.due("a greater region", x.rowOf(3), 4);
    }

    private static void rowsAreOneBelowTheOther() {
        SubtitleHarbour x = new SubtitleHarbour();
        x.setRegion(0, 4, 4, 5);
        x.addCue(0, 5, 0);
        x.addCue(1, 20, 0);
        x.addCue(6, 10, 0);
        addLengths(x, 0, 1);
        addLengths(x, 1, 1);
        addLengths(x, 2, 5, 5);
        CHECK.due("row 7", x.rowOf(0), 7);
        CHECK.due("row 6", x.rowOf(1), 6);
        CHECK.due("rows 4 and 5, not 7 and 5", x.rowOf(2), 4);
        addLengths(x, 2, 5);
        CHECK.due("three rows are free, but not one below the other", x.rowOf(2), -1);
    }

    private static void rowsAnew() {
        SubtitleHarbour x = new SubtitleHarbour();
        x.addCue(10, 20, 0);
        addLengths(x, 0, 9, 9);
        CHECK.due("one line", x.rowOf(0), 7);
        x.addCue(9, 11, 0);
        addLengths(x, 1, 3);
        CHECK.due("a cue ahead", x.rowOf(0), 6);
        x.setRegion(0, 0, 8, 10);
        CHECK.due("two lines", x.rowOf(0), 5);
        x.setRegion(0, 0, 4, 10);
        CHECK.due("fewer rows", x.rowOf(0), 1);
        x.addCut(11);
        x.snap(1);
        CHECK.due("snapped", x.rowOf(0), 2);
    }

    private static void jumps() {
        SubtitleHarbour x = new SubtitleHarbour();
        x.setRegion(0, 0, 8, 5);
        x.addCue(10, 20, 0);
        x.addCue(15, 30, 0);
        addLengths(x, 0, 5, 5);
        addLengths(x, 1, 5, 5, 5);
        int[][] want = {{9, 7, -1}, {10, 7, 0}, {10, 6, 0}, {10, 5, -1}, {14, 5, -1}, {15, 5, 1}, {15, 3, 1},
            {15, 2, -1}, {19, 7, 0}, {20, 7, -1}, {29, 4, 1}, {30, 4, -1}, {0, 0, -1}, {99999, 7, -1}};
        for (int[] w : want) {
            CHECK.due("cueAt " + w[0] + " " + w[1], x.cueAt(w[0], w[1]), w[2]);
            CHECK.due("cueAnew " + w[0] + " " + w[1], x.cueAnew(w[0], w[1]), w[2]);
        }
        for (int[] w : new int[][] {{-1, 0}, {100000, 0}, {0, -1}, {0, 8}}) {
            CHECK.badArgument("cueAt", () -> x.cueAt(w[0], w[1]));
            CHECK.badArgument("cueAnew", () -> x.cueAnew(w[0], w[1]));
        }
    }
}
