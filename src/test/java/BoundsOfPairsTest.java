/** The boundary cases under 'Pairs' and of the promises 36 to 41, sentence by sentence. */
public final class BoundsOfPairsTest {
    private static final Check CHECK = new Check("BoundsOfPairsTest");

    public static void main(String[] args) {
        costs();
        alone();
        asDear();
        soonerPairs();
        soonerAlone();
        orderOfCues();
        allOfThem();
        regionZero();
        readingTimes();
        speeds();
        means();
        sound();
        noSuchCue();
        CHECK.end();
    }

    /** Cues of one frame, each with its region and its first frame. */
    private static SubtitleHarbour cues(int... regionsAndFrames) {
        SubtitleHarbour x = new SubtitleHarbour();
        for (int place = 0; place + 1 < regionsAndFrames.length; place += 2) {
            x.addCue(regionsAndFrames[place + 1], regionsAndFrames[place + 1] + 1, regionsAndFrames[place]);
        }
        return x;
    }

    private static void due(SubtitleHarbour x, int cost, int... others) {
        CHECK.due("pairCost", x.pairCost(), cost);
        for (int cue = 0; cue < others.length; cue++) {
            int c = cue;
            if (others[cue] == -2) {
                CHECK.unsupported("pairOf " + cue, () -> x.pairOf(c));
            } else {
                CHECK.due("pairOf " + cue, x.pairOf(cue), others[cue]);
            }
        }
    }

    private static void costs() {
        CHECK.says("a pair costs the distance of the first frames plus 5 times that of the numbers of words");
        due(cues(1, 10, 2, 10), 0, 1, 0);
        due(cues(1, 10, 2, 11), 1, 1, 0);
        due(cues(1, 11, 2, 10), 1, 1, 0);
        for (int words = 1; words <= 12; words++) {
            SubtitleHarbour x = cues(1, 10, 2, 10);
            SubtitleHarbour y = cues(1, 10, 2, 10);
            for (int word = 0; word < words; word++) {
                x.addWord(0, 1);
                y.addWord(1, 1);
            }
            due(x, 5 * words, 1, 0);
            due(y, 5 * words, 1, 0);
        }
        SubtitleHarbour both = cues(1, 10, 2, 10);
        for (int word = 0; word < 12; word++) {
            both.addWord(0, 1);
            both.addWord(1, 99);
        }
        due(both, 0, 1, 0);
        due(cues(1, 0, 2, 99998), 80, -1, -1);
    }

    private static void alone() {
        CHECK.says("a cue without another one costs 40");
        due(cues(), 0);
        due(cues(1, 5), 40, -1);
        due(cues(2, 5), 40, -1);
        due(cues(1, 5, 1, 5), 80, -1, -1);
        due(cues(2, 5, 2, 5, 2, 5), 120, -1, -1, -1);
        due(cues(0, 5), 0, -2);
        due(cues(0, 5, 1, 5, 0, 5, 0, 6), 40, -2, -1, -2, -2);
    }

    private static void asDear() {
        CHECK.says("The way that costs least is taken");
        due(cues(1, 0, 2, 79), 79, 1, 0);
        due(cues(1, 0, 2, 80), 80, 1, 0);
        due(cues(1, 0, 2, 81), 80, -1, -1);
        due(cues(2, 0, 1, 80), 80, 1, 0);
        due(cues(2, 0, 1, 81), 80, -1, -1);
        SubtitleHarbour x = cues(1, 0, 2, 75);
        x.addWord(0, 3);
        due(x, 80, 1, 0);
        x.addWord(0, 3);
        due(x, 80, -1, -1);
        // two pairs that cost 70 each are dearer than one that costs nothing with two alone
        due(cues(1, 0, 1, 70, 2, 70, 2, 140), 80, -1, 2, 1, -1);
    }

    private static void soonerPairs() {
        CHECK.says("of several, looked at from the first ones on, the one that sooner makes a pair");
        due(cues(1, 0, 1, 20, 2, 10), 50, 2, -1, 0);
        due(cues(2, 0, 2, 20, 1, 10), 50, 2, -1, 0);
        due(cues(1, 10, 1, 10, 1, 10, 2, 10), 80, 3, -1, -1, 0);
        due(cues(2, 10, 2, 10, 2, 10, 1, 10), 80, 3, -1, -1, 0);
        // two pairs of 40 and 40, or one that costs nothing and two alone: either way 80
        due(cues(1, 0, 1, 40, 2, 40, 2, 80), 80, 2, 3, 0, 1);
        due(cues(1, 0, 1, 41, 2, 41, 2, 82), 80, -1, 2, 1, -1);
    }

    private static void soonerAlone() {
        CHECK.says("and then the one that sooner leaves a cue of the region 1 alone");
        due(cues(1, 0, 2, 200), 80, -1, -1);
        SubtitleHarbour y = cues(1, 100, 1, 101, 2, 100, 2, 101);
        for (int word = 0; word < 10; word++) {
            y.addWord(0, 1);
            y.addWord(3, 1);
        }
        // one pair that costs 1, and two alone: the second one of the region 1 with the first one of the region 2, or
        // the other way round
        due(y, 81, -1, 2, 1, -1);
    }

    private static void orderOfCues() {
        CHECK.says("Cues of the region 1 are paired with cues of the region 2, both in the order as above");
        due(cues(1, 50, 2, 100, 1, 100, 2, 50), 0, 3, 2, 1, 0);
        due(cues(1, 50, 1, 50, 2, 50, 2, 50), 0, 2, 3, 0, 1);
        // pairs do not cross: the words would have it so
        SubtitleHarbour x = cues(1, 50, 1, 50, 2, 50, 2, 50);
        x.addWord(0, 1);
        x.addWord(3, 1);
        due(x, 10, 2, 3, 0, 1);
        SubtitleHarbour y = cues(1, 50, 2, 50, 1, 60, 2, 60);
        y.dropCue(0);
        due(new SubtitleHarbour(), 0);
        CHECK.due("a gone one has no pair", y.pairCost(), 40);
        CHECK.due("the others", y.pairOf(2), 3);
        CHECK.due("alone", y.pairOf(1), -1);
        SubtitleHarbour z = cues(1, 5, 2, 5);
        z.addAnchor(5, 50);
        z.addAnchor(6, 100);
        z.drift();
        due(z, 0, 1, 0);
        z.addCue(1, 2, 2);
        due(z, 40, 1, 0, -1);
    }

    private static void allOfThem() {
        SubtitleHarbour x = new SubtitleHarbour();
        SubtitleHarbour y = new SubtitleHarbour();
        SubtitleHarbour z = new SubtitleHarbour();
        for (int cue = 0; cue < 24; cue++) {
            x.addCue(100 * cue, 100 * cue + 1, 1);
            y.addCue(100 * cue, 100 * cue + 1, 2);
            z.addCue(100 * (cue / 2), 100 * (cue / 2) + 1, 1 + cue % 2);
        }
        CHECK.due("24 of the region 1", x.pairCost(), 960);
        CHECK.due("24 of the region 2", y.pairCost(), 960);
        CHECK.due("12 pairs", z.pairCost(), 0);
        for (int cue = 0; cue < 24; cue++) {
            CHECK.due("alone", x.pairOf(cue), -1);
            CHECK.due("alone", y.pairOf(cue), -1);
            CHECK.due("paired", z.pairOf(cue), cue % 2 == 0 ? cue + 1 : cue - 1);
        }
    }

    private static void regionZero() {
        CHECK.says("Throws UnsupportedOperationException if it is of the region 0");
        SubtitleHarbour x = cues(0, 5, 1, 5, 2, 5, 0, 6);
        CHECK.unsupported("0", () -> x.pairOf(0));
        CHECK.unsupported("3", () -> x.pairOf(3));
        CHECK.due("the others", x.pairOf(1), 2);
    }

    private static void readingTimes() {
        CHECK.says("Returns the letters of its words and blanks between them, all in one line, times 2000, plus 300 for"
                + " each word.");
        SubtitleHarbour x = cues(0, 5);
        CHECK.due("no words", x.readingTime(0), 0);
        x.addWord(0, 99);
        CHECK.due("one letter", x.readingTime(0), 2300);
        x.addWord(0, 9);
        CHECK.due("two letters and a blank", x.readingTime(0), 6600);
        for (int word = 2; word < 12; word++) {
            x.addWord(0, 98);
        }
        CHECK.due("12 words", x.readingTime(0), (2 + 90 + 11) * 2000 + 3600);
        x.setRegion(0, 0, 8, 5);
        CHECK.due("as many lines", x.readingTime(0), (2 + 90 + 11) * 2000 + 3600);
    }

    private static void speeds() {
        CHECK.says("Returns the letters of its words, without blanks, divided by the number of its frames, both converted"
                + " to float, times 30.0f.");
        SubtitleHarbour x = new SubtitleHarbour();
        x.addCue(0, 99999, 0);
        x.addCue(99998, 99999, 0);
        x.addCue(7, 17, 0);
        CHECK.dueReal("no words", x.speed(0), 0.0f);
        CHECK.dueReal("no words, one frame", x.speed(1), 0.0f);
        for (int cue = 0; cue < 3; cue++) {
            int frames = cue == 0 ? 99999 : cue == 1 ? 1 : 10;
            for (int word = 1; word <= 12; word++) {
                x.addWord(cue, 8);
                float due = (float) (9 * word) / (float) frames * 30.0f;
                CHECK.dueReal("9 letters and more", x.speed(cue), due);
            }
        }
        SubtitleHarbour y = new SubtitleHarbour();
        y.addCue(0, 7, 0);
        y.addWord(0, 9);
        CHECK.dueReal("divided ahead of times", y.speed(0), 1.0f / 7.0f * 30.0f);
    }

    private static void means() {
        CHECK.says("Throws ArithmeticException if there are no cues");
        SubtitleHarbour x = new SubtitleHarbour();
        CHECK.dueThrow("none", ArithmeticException.class, () -> (long) x.meanLength());
        x.addCue(0, 99999, 0);
        CHECK.dueReal("the longest", x.meanLength(), 99999.0);
        x.addCue(5, 6, 1);
        x.addCue(5, 6, 2);
        CHECK.says("Returns the sum divided by the number of cues, both converted to double.");
        CHECK.dueReal("three", x.meanLength(), 100001.0 / 3.0);
        x.dropCue(0);
        CHECK.dueReal("two of one frame", x.meanLength(), 1.0);
        x.dropCue(1);
        x.dropCue(2);
        CHECK.dueThrow("none is left", ArithmeticException.class, () -> (long) x.meanLength());
        SubtitleHarbour y = new SubtitleHarbour();
        for (int cue = 0; cue < 24; cue++) {
            y.addCue(0, 99999 - cue, 0);
        }
        CHECK.dueReal("24", y.meanLength(), (24.0 * 99999.0 - 276.0) / 24.0);
    }

    private static void sound() {
        CHECK.says("Returns whether jumps and playing show the same at each frame of a code and at the beginning and the"
                + " last frame of each cue, and no two cues there have the same row.");
        SubtitleHarbour x = new SubtitleHarbour();
        CHECK.due("nothing", x.isSound(), true);
        x.code(0, 'd', 0);
        x.code(99999, 't', 1);
        CHECK.due("codes at the edges", x.isSound(), true);
        x.addCue(0, 1, 0);
        x.addCue(99998, 99999, 0);
        CHECK.due("cues without words", x.isSound(), true);
        x.addWord(0, 1);
        x.addWord(1, 1);
        CHECK.due("cues at the edges", x.isSound(), true);
        for (int cue = 2; cue < 24; cue++) {
            x.addCue(0, 99999, cue % 3);
            x.addWord(cue, 1);
        }
        CHECK.due("more cues than rows", x.isSound(), true);
        CHECK.due("shown is what was", x.cellAt(99999, 7, 0), 1);
        CHECK.due("the mode is what was", x.modeAt(0), 'd');
    }

    private static void noSuchCue() {
        CHECK.says("Throws NoSuchElementException if there is no such cue");
        SubtitleHarbour x = cues(1, 5, 1, 6, 1, 7);
        x.addWord(2, 1);
        x.addWord(2, 1);
        x.dropCue(1);
        for (int cue : new int[] {-1, 1, 3, 23, 24, Integer.MIN_VALUE, Integer.MAX_VALUE}) {
            Check.Call[] calls = {() -> x.addWord(cue, 1), () -> x.dropCue(cue), () -> x.startOf(cue), () -> x.endOf(cue),
                () -> x.lines(cue), () -> x.wordsIn(cue, 0), () -> x.rowOf(cue), () -> x.merge(cue, 2),
                () -> x.merge(2, cue), () -> x.split(cue, 1), () -> x.hear(cue), () -> x.timeOf(cue, 0),
                () -> x.sung(cue, 5), () -> x.pairOf(cue), () -> x.readingTime(cue), () -> (long) x.speed(cue)};
            for (int call = 0; call < calls.length; call++) {
                CHECK.noSuch("call " + call + " of cue " + cue, calls[call]);
            }
        }
        CHECK.due("two are there", x.cues(), 2);
    }
}
