/** The boundary cases under 'Changing cues' and of the promises 24 to 31, sentence by sentence. */
public final class BoundsOfChangesTest {
    private static final Check CHECK = new Check("BoundsOfChangesTest");

    public static void main(String[] args) {
        mostCuts();
        nearestCut();
        reach();
        lowerOfTwo();
        endStaysGreater();
        atThatMoment();
        snapReturns();
        leastLength();
        upToTheLastFrame();
        nextOne();
        atLeastOne();
        stretchOrder();
        mergedWords();
        mergedFrames();
        wrongMerges();
        splitAt();
        splitShares();
        wrongSplits();
        convertedDown();
        convertedEnds();
        convertedCutsAndTimes();
        tooGreatToConvert();
        mostAnchors();
        risingAnchors();
        between();
        aheadAndBehind();
        clamped();
        anchorsAreGone();
        CHECK.end();
    }

    private static SubtitleHarbour with(int... frames) {
        SubtitleHarbour x = new SubtitleHarbour();
        for (int place = 0; place + 1 < frames.length; place += 2) {
            x.addCue(frames[place], frames[place + 1], 0);
        }
        return x;
    }

    private static void cuts(SubtitleHarbour x, int... frames) {
        for (int frame : frames) {
            x.addCut(frame);
        }
    }

    private static void words(SubtitleHarbour x, int cue, int... words) {
        for (int word : words) {
            x.addWord(cue, word);
        }
    }

    private static void due(String what, SubtitleHarbour x, int cue, int start, int end) {
        CHECK.due(what + ", first frame of " + cue, x.startOf(cue), start);
        CHECK.due(what + ", end of " + cue, x.endOf(cue), end);
    }

    private static void mostCuts() {
        CHECK.says("Cuts are frames, at most 20.");
        SubtitleHarbour x = new SubtitleHarbour();
        for (int cut = 0; cut < 20; cut++) {
            CHECK.due("number of cuts", x.addCut(cut == 0 ? 0 : 99999 - 300 * (20 - cut)), cut + 1);
        }
        CHECK.badState("a 21st one", () -> x.addCut(5));
        CHECK.badState("a 21st one at the last frame", () -> x.addCut(99999));
        CHECK.says("Throws IllegalStateException if there are 20 cuts, or it is there");
        SubtitleHarbour y = new SubtitleHarbour();
        CHECK.due("at 0", y.addCut(0), 1);
        CHECK.badState("at 0 again", () -> y.addCut(0));
        CHECK.due("at the last frame", y.addCut(99999), 2);
        CHECK.badState("at the last frame again", () -> y.addCut(99999));
        CHECK.due("beside it", y.addCut(99998), 3);
        CHECK.badState("one between again", () -> y.addCut(99998));
        CHECK.due("between", y.addCut(1), 4);
    }

    private static void nearestCut() {
        CHECK.says("for each cue that is there, the first frame, and then the end, becomes the cut that is nearest");
        SubtitleHarbour x = with(50, 80, 50, 80);
        x.dropCue(0);
        cuts(x, 40, 53, 45, 90, 77, 70);
        CHECK.due("both", x.snap(99), 2);
        due("nearest", x, 1, 53, 77);
        SubtitleHarbour y = with(50, 80);
        CHECK.due("no cuts", y.snap(99), 0);
        due("no cuts", y, 0, 50, 80);
        cuts(y, 80, 50);
        CHECK.due("at cuts", y.snap(99), 0);
        due("at cuts", y, 0, 50, 80);
        SubtitleHarbour edges = with(3, 99990);
        cuts(edges, 0, 99999);
        CHECK.due("the first and the last frame", edges.snap(10), 2);
        due("the first and the last frame", edges, 0, 0, 99999);
        SubtitleHarbour all = with();
        for (int number = 0; number < 24; number++) {
            all.addCue(100 * number + 51, 100 * number + 61, number % 3);
            if (number < 20) {
                all.addCut(100 * number + 50);
            }
        }
        CHECK.due("20 cuts and 24 cues", all.snap(1), 20);
        due("the last cut", all, 19, 1950, 1961);
        due("no cut", all, 20, 2051, 2061);
        CHECK.due("no cues", new SubtitleHarbour().snap(5), 0);
    }

    private static void reach() {
        CHECK.says("if it is not farther than the reach");
        for (int far : new int[] {0, 1, 50, 99}) {
            SubtitleHarbour x = with(200, 1000);
            cuts(x, 200 - far, 1000 + far);
            if (far > 0) {
                CHECK.due("farther", x.snap(far - 1), 0);
            }
            CHECK.due("not farther", x.snap(far), far > 0 ? 2 : 0);
            due("not farther", x, 0, 200 - far, 1000 + far);
        }
        SubtitleHarbour far = with(200, 1000);
        cuts(far, 100, 1100);
        CHECK.due("100 is farther than any reach", far.snap(99), 0);
        CHECK.says("Throws IllegalArgumentException if the reach is out of range");
        for (int wrong : new int[] {-1, 100, Integer.MIN_VALUE, Integer.MAX_VALUE}) {
            CHECK.badArgument("reach " + wrong, () -> far.snap(wrong));
        }
        due("nothing is snapped", far, 0, 200, 1000);
    }

    private static void lowerOfTwo() {
        CHECK.says("of two as near the lower one");
        SubtitleHarbour x = with(50, 80);
        cuts(x, 53, 47, 83, 77);
        CHECK.due("both", x.snap(3), 2);
        due("the lower ones", x, 0, 47, 77);
        SubtitleHarbour y = with(50, 80);
        cuts(y, 47, 53, 77, 83);
        CHECK.due("both", y.snap(3), 2);
        due("in the other order of telling", y, 0, 47, 77);
    }

    private static void endStaysGreater() {
        CHECK.says("and the end stays greater than the first frame; otherwise it stays, also if another cut is near");
        SubtitleHarbour x = with(50, 52);
        cuts(x, 52, 45);
        CHECK.due("the first frame would be the end", x.snap(9), 0);
        due("it stays", x, 0, 50, 52);
        SubtitleHarbour y = with(50, 52);
        cuts(y, 53, 46);
        CHECK.due("the first frame would be behind the end", y.snap(9), 1);
        due("the end alone", y, 0, 50, 53);
        SubtitleHarbour z = with(50, 53);
        cuts(z, 51);
        CHECK.due("the end would be the first frame", z.snap(9), 1);
        due("the first frame alone", z, 0, 51, 53);
        SubtitleHarbour w = with(50, 51);
        cuts(w, 50, 55);
        CHECK.due("the end would be the first frame, though another cut is near", w.snap(9), 0);
        due("it stays", w, 0, 50, 51);
        SubtitleHarbour v = with(50, 51);
        cuts(v, 49);
        CHECK.due("one frame becomes two", v.snap(9), 1);
        due("one frame becomes two", v, 0, 49, 51);
    }

    private static void atThatMoment() {
        CHECK.says("To snap, what a cue has at that moment counts.");
        SubtitleHarbour x = with(50, 53);
        cuts(x, 49);
        CHECK.due("the end would be the new first frame", x.snap(9), 1);
        due("the new first frame counts", x, 0, 49, 53);
        SubtitleHarbour y = with(50, 60);
        cuts(y, 60, 62);
        CHECK.due("the first frame looks at the end as it is", y.snap(20), 0);
        SubtitleHarbour z = with(60, 62);
        cuts(z, 56, 59);
        CHECK.due("the first frame, then the end", z.snap(9), 1);
        due("the end would be the first frame", z, 0, 59, 62);
        SubtitleHarbour w = with(60, 62);
        cuts(w, 55, 61);
        CHECK.due("61 is nearest to both", w.snap(9), 1);
        due("61 is nearest to both", w, 0, 61, 62);
        CHECK.due("then there is nothing more", w.snap(9), 0);
        SubtitleHarbour v = with(10, 20, 18, 40);
        cuts(v, 19);
        CHECK.due("other cues do not count", v.snap(2), 2);
        due("an end", v, 0, 10, 19);
        due("a first frame", v, 1, 19, 40);
    }

    private static void snapReturns() {
        CHECK.says("Returns how many frames of cues became others.");
        SubtitleHarbour x = with(10, 20, 11, 30, 12, 21);
        cuts(x, 11, 20);
        CHECK.due("two first frames and an end", x.snap(1), 3);
        CHECK.due("none", x.snap(1), 0);
        x.dropCue(2);
        CHECK.due("none of gone ones", x.snap(99), 1);
        due("the end of one", x, 1, 11, 20);
    }

    private static void leastLength() {
        CHECK.says("each one's end becomes at least its first frame plus the least length");
        SubtitleHarbour x = with(100, 110);
        CHECK.due("as long", x.stretch(10, 0), 0);
        CHECK.due("shorter is none", x.stretch(9, 99), 0);
        CHECK.due("one longer", x.stretch(11, 0), 1);
        due("one longer", x, 0, 100, 111);
        CHECK.due("the longest", x.stretch(999, 0), 1);
        due("the longest", x, 0, 100, 1099);
        CHECK.due("no cues", new SubtitleHarbour().stretch(999, 0), 0);
        CHECK.says("Throws IllegalArgumentException if a number is out of range");
        int[][] wrong = {{0, 0}, {1000, 0}, {-1, 0}, {1, -1}, {1, 100}, {Integer.MIN_VALUE, 0}, {Integer.MAX_VALUE, 0},
            {1, Integer.MIN_VALUE}, {1, Integer.MAX_VALUE}, {0, 100}};
        for (int[] w : wrong) {
            CHECK.badArgument("stretch " + w[0] + " " + w[1], () -> x.stretch(w[0], w[1]));
        }
        CHECK.due("1 and 0", x.stretch(1, 0), 0);
        CHECK.due("1 and 99", x.stretch(1, 99), 0);
    }

    private static void upToTheLastFrame() {
        CHECK.says("at most 99999");
        SubtitleHarbour x = with(99000, 99001);
        CHECK.due("as far as it goes", x.stretch(999, 0), 1);
        due("99999 is 999 behind", x, 0, 99000, 99999);
        SubtitleHarbour y = with(99001, 99002);
        CHECK.due("not farther", y.stretch(999, 0), 1);
        due("not farther", y, 0, 99001, 99999);
        SubtitleHarbour z = with(99998, 99999);
        CHECK.due("there already", z.stretch(999, 99), 0);
        due("there already", z, 0, 99998, 99999);
    }

    private static void nextOne() {
        CHECK.says("if there is a next one, at most the next one's first frame less the gap");
        SubtitleHarbour x = with(100, 110, 200, 210);
        CHECK.due("up to the next one", x.stretch(150, 0), 2);
        due("up to the next one", x, 0, 100, 200);
        due("there is no next one", x, 1, 200, 350);
        CHECK.due("a gap of 1", x.stretch(1, 1), 1);
        due("a gap of 1", x, 0, 100, 199);
        CHECK.due("a gap of 99", x.stretch(1, 99), 1);
        due("a gap of 99", x, 0, 100, 101);
        SubtitleHarbour y = with(100, 300, 200, 210);
        CHECK.due("an end behind the next one", y.stretch(1, 0), 1);
        due("an end behind the next one", y, 0, 100, 200);
        CHECK.says("for each region, its cues");
        SubtitleHarbour z = new SubtitleHarbour();
        z.addCue(100, 110, 0);
        z.addCue(105, 110, 1);
        z.addCue(106, 110, 2);
        z.addCue(120, 130, 1);
        CHECK.due("regions do not care for one another", z.stretch(50, 2), 4);
        due("region 0", z, 0, 100, 150);
        due("region 1", z, 1, 105, 118);
        due("region 2", z, 2, 106, 156);
        due("region 1, the last one", z, 3, 120, 170);
        SubtitleHarbour w = with(100, 110, 120, 130);
        w.dropCue(1);
        CHECK.due("a gone one is no next one", w.stretch(50, 0), 1);
        due("a gone one is no next one", w, 0, 100, 150);
    }

    private static void atLeastOne() {
        CHECK.says("but at least its own first frame plus 1");
        SubtitleHarbour x = with(100, 110, 100, 120, 150, 160);
        CHECK.due("with the same first frame", x.stretch(1, 0), 1);
        due("with the same first frame", x, 0, 100, 101);
        due("the second one of them", x, 1, 100, 120);
        CHECK.due("a gap as long as the distance", x.stretch(30, 50), 2);
        due("a gap as long as the distance", x, 1, 100, 101);
        due("the last one", x, 2, 150, 180);
        SubtitleHarbour y = with(3, 50, 50, 60);
        CHECK.due("the gap goes below 0", y.stretch(1, 99), 1);
        due("the gap goes below 0", y, 0, 3, 4);
        SubtitleHarbour z = with(0, 9, 2, 5);
        CHECK.due("at the first frame of all", z.stretch(1, 2), 1);
        due("at the first frame of all", z, 0, 0, 1);
    }

    private static void stretchOrder() {
        CHECK.says("its cues in the order as above");
        SubtitleHarbour x = with(300, 310, 100, 110, 200, 210, 200, 205);
        CHECK.due("by first frames, then by numbers", x.stretch(500, 10), 4);
        due("the last one", x, 0, 300, 800);
        due("the first one", x, 1, 100, 190);
        due("the lower number", x, 2, 200, 201);
        due("the greater number", x, 3, 200, 290);
        CHECK.says("Returns how many ends became others.");
        CHECK.due("none", x.stretch(500, 10), 0);
        CHECK.due("one", x.stretch(501, 10), 1);
    }

    private static void mergedWords() {
        CHECK.says("the first one gets the words of the second one behind its own");
        SubtitleHarbour x = with(0, 9, 5, 20);
        words(x, 0, 9);
        words(x, 1, 1, 2);
        CHECK.due("number of words", x.merge(1, 0), 3);
        x.setRegion(0, 0, 8, 5);
        CHECK.due("2 and blank, 3, 1", x.lines(1), 2);
        CHECK.due("the own words first", x.wordsIn(1, 0), 1);
        SubtitleHarbour y = with(0, 9, 5, 20, 7, 30);
        CHECK.due("none and none", y.merge(0, 1), 0);
        words(y, 2, 5, 6);
        CHECK.due("none and two", y.merge(0, 2), 2);
        y.addCue(1, 2, 0);
        CHECK.due("two and none", y.merge(0, 3), 2);
        SubtitleHarbour z = with(0, 9, 5, 20);
        words(z, 0, 1, 1, 1, 1, 1, 1, 1, 1, 1, 1, 1);
        words(z, 1, 8);
        CHECK.due("12 words", z.merge(0, 1), 12);
        CHECK.due("all of them count", z.readingTime(0), (11 * 2 + 9 + 11) * 2000 + 12 * 300);
        SubtitleHarbour w = with(0, 9, 5, 20);
        words(w, 1, 1, 1, 1, 1, 1, 1, 1, 1, 1, 1, 1, 1);
        CHECK.due("none and 12", w.merge(0, 1), 12);
    }

    private static void mergedFrames() {
        CHECK.says("the lesser first frame, and the greater end; the second one is gone");
        int[][] others = {{50, 60}, {40, 55}, {55, 70}, {40, 70}, {52, 58}, {0, 1}, {99998, 99999}, {50, 51}, {59, 60}};
        for (int[] other : others) {
            SubtitleHarbour x = with(50, 60, other[0], other[1]);
            x.merge(0, 1);
            due("merged with " + other[0], x, 0, Math.min(50, other[0]), Math.max(60, other[1]));
            CHECK.noSuch("gone", () -> x.startOf(1));
            CHECK.due("one is left", x.cues(), 1);
            SubtitleHarbour y = with(50, 60, other[0], other[1]);
            y.merge(1, 0);
            due("the other way round", y, 1, Math.min(50, other[0]), Math.max(60, other[1]));
            CHECK.noSuch("the other one is gone", () -> y.startOf(0));
        }
    }

    private static void wrongMerges() {
        SubtitleHarbour x = new SubtitleHarbour();
        x.addCue(0, 9, 0);
        x.addCue(0, 9, 1);
        x.addCue(0, 9, 0);
        x.addCue(0, 9, 0);
        x.dropCue(3);
        CHECK.says("Throws NoSuchElementException if there is no such cue, for either");
        for (int none : new int[] {-1, 3, 4, 24, Integer.MIN_VALUE, Integer.MAX_VALUE}) {
            CHECK.noSuch("the first one " + none, () -> x.merge(none, 0));
            CHECK.noSuch("the second one " + none, () -> x.merge(0, none));
        }
        CHECK.says("Throws IllegalArgumentException if they are the same, or of different regions");
        CHECK.badArgument("the same", () -> x.merge(0, 0));
        CHECK.badArgument("of different regions", () -> x.merge(0, 1));
        CHECK.badArgument("of different regions, the other way round", () -> x.merge(1, 0));
        CHECK.says("Throws IllegalStateException if there would be more than 12 words");
        words(x, 0, 1, 1, 1, 1, 1, 1, 1);
        words(x, 2, 1, 1, 1, 1, 1, 1);
        CHECK.badState("13 words", () -> x.merge(0, 2));
        CHECK.badState("13 words, the other way round", () -> x.merge(2, 0));
        words(x, 0, 1, 1, 1, 1, 1);
        CHECK.badState("18 words", () -> x.merge(2, 0));
        CHECK.due("three are there", x.cues(), 3);
    }

    private static void splitAt() {
        CHECK.says("a new cue of the same region gets the words from there on");
        SubtitleHarbour x = new SubtitleHarbour();
        x.setRegion(2, 0, 8, 40);
        x.addCue(0, 120, 2);
        words(x, 0, 1, 2, 3, 4, 5, 6, 7, 8, 9, 10, 11, 12);
        CHECK.due("after the first word", x.split(0, 1), 1);
        CHECK.due("11 words", x.addWord(1, 9), 12);
        x.dropCue(0);
        CHECK.due("all but the last one", x.split(1, 11), 2);
        CHECK.due("a letter", x.readingTime(2), 2300);
        CHECK.due("of the region 2", x.pairCost(), 80);
        CHECK.says("the first one ends there");
        CHECK.due("no frame between", x.endOf(1), x.startOf(2));
        CHECK.due("the end goes to the new one", x.endOf(2), 120);
    }

    private static void splitShares() {
        CHECK.says("the new one begins at the first frame plus the length times b, divided by a, rounded down");
        SubtitleHarbour x = with(100, 110);
        words(x, 0, 1, 2, 3);
        x.split(0, 1);
        due("2 of 9 letters, 2.2", x, 0, 100, 102);
        due("the rest", x, 1, 102, 110);
        x.split(1, 1);
        due("3 of 7 letters, 3.4", x, 1, 102, 105);
        due("the rest of it", x, 2, 105, 110);
        SubtitleHarbour y = with(0, 99999);
        words(y, 0, 8, 8, 8, 8, 8, 8, 8, 8, 8, 8, 8, 8);
        y.split(0, 11);
        due("99 of 108 letters of the longest one", y, 0, 0, 91665);
        CHECK.says("but at least 1 behind the first frame and 1 ahead of the end");
        SubtitleHarbour z = with(10, 12, 20, 22, 30, 39);
        words(z, 0, 9, 8);
        words(z, 1, 8, 9);
        words(z, 2, 9, 8);
        z.split(0, 1);
        due("1 of 10 letters of 2 frames", z, 0, 10, 11);
        z.split(1, 1);
        due("9 of 10 letters of 2 frames", z, 1, 20, 21);
        z.split(2, 1);
        due("1 of 10 letters of 9 frames", z, 2, 30, 31);
        due("the rest", z, 5, 31, 39);
        SubtitleHarbour w = with(10, 13);
        words(w, 0, 8, 9);
        w.split(0, 1);
        due("9 of 10 letters of 3 frames", w, 0, 10, 12);
        due("1 of 3 frames", w, 1, 12, 13);
    }

    private static void wrongSplits() {
        SubtitleHarbour x = with(10, 11, 10, 12);
        words(x, 0, 1, 2, 3);
        words(x, 1, 1, 2, 3);
        CHECK.says("Throws IllegalArgumentException if the number is less than 1, or it does not have more words");
        for (int wrong : new int[] {0, -1, 3, 4, 12, 13, Integer.MIN_VALUE, Integer.MAX_VALUE}) {
            CHECK.badArgument("split at " + wrong, () -> x.split(1, wrong));
        }
        x.addCue(5, 9, 0);
        CHECK.badArgument("without words at 0", () -> x.split(2, 0));
        CHECK.badArgument("without words at 1", () -> x.split(2, 1));
        CHECK.says("Throws UnsupportedOperationException if it has fewer than 2 frames");
        CHECK.unsupported("one frame", () -> x.split(0, 1));
        CHECK.due("two frames", x.split(1, 2), 3);
        due("one of them", x, 1, 10, 11);
        due("and the other one", x, 3, 11, 12);
        CHECK.unsupported("one frame is left", () -> x.split(1, 1));
        CHECK.says("Throws IllegalStateException if there were 24 cues");
        for (int number = 4; number < 24; number++) {
            x.addCue(10, 20, 0);
        }
        x.addWord(23, 1);
        x.addWord(23, 2);
        x.dropCue(5);
        CHECK.badState("a 25th one", () -> x.split(23, 1));
        SubtitleHarbour y = new SubtitleHarbour();
        for (int number = 0; number < 23; number++) {
            y.addCue(10, 20, 0);
        }
        words(y, 22, 1, 2, 3);
        CHECK.due("the 24th one", y.split(22, 1), 23);
        CHECK.badState("the 25th one", () -> y.split(23, 1));
    }

    private static void convertedDown() {
        CHECK.says("each frame of cues, cuts and heard words becomes itself times n, divided by d, rounded down");
        SubtitleHarbour x = with(0, 7, 99, 100, 100, 2000);
        x.dropCue(1);
        CHECK.due("how many cues are there", x.convert(1, 3), 2);
        due("0 and 2.3", x, 0, 0, 2);
        due("33.3 and 666.6", x, 2, 33, 666);
        CHECK.due("the least numbers", x.convert(1, 1), 2);
        due("as it is", x, 2, 33, 666);
        CHECK.due("the greatest n", x.convert(1001, 7), 2);
        due("143 times", x, 2, 4719, 95238);
        CHECK.due("the greatest d", x.convert(1, 1001), 2);
        due("4.7 and 95.1", x, 2, 4, 95);
        SubtitleHarbour y = with(99998, 99999);
        y.convert(1000, 1001);
        due("no number wraps around", y, 0, 99898, 99899);
        y.convert(1001, 1000);
        due("and back", y, 0, 99997, 99998);
        CHECK.due("no cues", new SubtitleHarbour().convert(1001, 1), 0);
        CHECK.says("Throws IllegalArgumentException if a number is out of range");
        int[] wrong = {0, -1, 1002, Integer.MIN_VALUE, Integer.MAX_VALUE};
        for (int w : wrong) {
            CHECK.badArgument("n " + w, () -> y.convert(w, 1001));
            CHECK.badArgument("d " + w, () -> y.convert(1, w));
            CHECK.badArgument("both " + w, () -> y.convert(w, w));
        }
    }

    private static void convertedEnds() {
        CHECK.says("an end is at least 1 more than the first frame");
        SubtitleHarbour x = with(0, 1, 5, 9, 10, 20, 9, 10);
        x.convert(1, 10);
        due("0 and 0", x, 0, 0, 1);
        due("0 and 0 again", x, 1, 0, 1);
        due("1 and 2", x, 2, 1, 2);
        due("0 and 1", x, 3, 0, 1);
        SubtitleHarbour y = with(99997, 99998, 99998, 99999);
        y.convert(500, 1001);
        due("at the greatest frames", y, 0, 49948, 49949);
        due("at the greatest frames", y, 1, 49949, 49950);
    }

    private static void convertedCutsAndTimes() {
        CHECK.says("cuts that become the same one stay two, and frames of words stay");
        SubtitleHarbour x = new SubtitleHarbour();
        for (int cut = 0; cut < 19; cut++) {
            x.addCut(cut);
        }
        x.convert(1, 1001);
        CHECK.badState("0 is there", () -> x.addCut(0));
        CHECK.due("20 cuts", x.addCut(1), 20);
        CHECK.badState("20 cuts, though few frames", () -> x.addCut(5));
        SubtitleHarbour y = with(100, 120);
        words(y, 0, 5, 6);
        y.addHeard(101, 5);
        y.hear(0);
        y.convert(2, 1);
        CHECK.due("the frame of the word stays", y.timeOf(0, 0), 101);
        CHECK.due("none stays none", y.timeOf(0, 1), -1);
        y.hear(0);
        CHECK.due("heard anew", y.timeOf(0, 0), 202);
    }

    private static void tooGreatToConvert() {
        CHECK.says("Throws UnsupportedOperationException if a frame would be greater than 99999");
        SubtitleHarbour x = with(100, 999);
        CHECK.due("an end at 99999.9", x.convert(1001, 10), 1);
        due("an end", x, 0, 10010, 99999);
        CHECK.unsupported("an end at 100000", () -> x.convert(1001, 1000));
        CHECK.unsupported("an end far behind", () -> x.convert(1001, 1));
        due("nothing is changed", x, 0, 10010, 99999);
        SubtitleHarbour cut = new SubtitleHarbour();
        cut.addCut(50000);
        CHECK.unsupported("a cut at 100000", () -> cut.convert(2, 1));
        CHECK.due("a cut ahead of it", cut.convert(999, 500), 0);
        SubtitleHarbour heard = new SubtitleHarbour();
        heard.addHeard(50000, 1);
        CHECK.unsupported("a heard word at 100000", () -> heard.convert(2, 1));
        CHECK.due("a heard word ahead of it", heard.convert(999, 500), 0);
        SubtitleHarbour gone = with(100, 99999);
        gone.dropCue(0);
        gone.addAnchor(99999, 99999);
        gone.code(99999, 'd', 0);
        CHECK.due("gone cues, anchors and codes do not count", gone.convert(1001, 1), 0);
        CHECK.due("codes stay", gone.modeAt(99999), 'd');
        CHECK.due("codes stay", gone.modeAt(99998), 'o');
        SubtitleHarbour down = with(99997, 99999);
        CHECK.due("rounded down to 99999", down.convert(1001, 1001), 1);
        CHECK.due("0 stays 0", with(0, 1).convert(1001, 1), 1);
    }

    private static void mostAnchors() {
        CHECK.says("Anchors are pairs of a frame as it is and a frame where it should be, at most 8");
        SubtitleHarbour x = new SubtitleHarbour();
        for (int anchor = 0; anchor < 8; anchor++) {
            CHECK.due("number of anchors", x.addAnchor(10 * anchor, anchor), anchor + 1);
        }
        CHECK.says("Throws IllegalStateException if there are 8 anchors");
        CHECK.badState("a 9th one", () -> x.addAnchor(71, 8));
        CHECK.badState("a 9th one at the end", () -> x.addAnchor(99999, 99999));
        x.drift();
        CHECK.due("room again", x.addAnchor(0, 0), 1);
        SubtitleHarbour y = with(5, 95, 65, 72, 79, 80, 81, 83);
        for (int anchor = 1; anchor <= 8; anchor++) {
            y.addAnchor(10 * anchor, 100 + (anchor == 8 ? 100 : anchor == 7 ? 10 : anchor));
        }
        CHECK.due("all eight count", y.drift(), 8);
        due("ahead of the first, behind the eighth", y, 0, 96, 215);
        due("from the sixth to the seventh, and to the eighth", y, 1, 108, 128);
        due("ahead of the eighth, and at it", y, 2, 191, 200);
        due("behind the eighth", y, 3, 201, 203);
    }

    private static void risingAnchors() {
        CHECK.says("with rising frames in both");
        SubtitleHarbour x = new SubtitleHarbour();
        x.addAnchor(50, 60);
        for (int[] w : new int[][] {{50, 61}, {51, 60}, {50, 60}, {49, 61}, {51, 59}, {0, 0}, {0, 99999}, {99999, 0}}) {
            CHECK.badArgument("not rising " + w[0] + " " + w[1], () -> x.addAnchor(w[0], w[1]));
        }
        CHECK.due("rising by 1", x.addAnchor(51, 61), 2);
        CHECK.badArgument("that of the last anchor counts", () -> x.addAnchor(51, 62));
        CHECK.due("to the end", x.addAnchor(99999, 99999), 3);
        CHECK.badArgument("behind the end", () -> x.addAnchor(99999, 99999));
        SubtitleHarbour y = new SubtitleHarbour();
        CHECK.due("the first one at 0", y.addAnchor(0, 99999), 1);
        SubtitleHarbour z = new SubtitleHarbour();
        CHECK.due("the first one at the end", z.addAnchor(99999, 0), 1);
    }

    private static void between() {
        CHECK.says("a frame of a cue at or behind an anchor and ahead of the next one becomes where the former should be"
                + " plus what it is behind it, times the distance of where both should be, divided by the distance of"
                + " both, rounded down");
        SubtitleHarbour x = with(10, 19, 11, 20, 12, 21);
        x.addAnchor(10, 100);
        x.addAnchor(20, 125);
        CHECK.due("all six", x.drift(), 6);
        due("at the former, and 22.5 behind it", x, 0, 100, 122);
        due("2.5 behind it, and at the next one", x, 1, 102, 125);
        due("5 behind it, and behind the next one", x, 2, 105, 126);
        SubtitleHarbour y = with(1, 99998, 50000, 99999);
        y.addAnchor(0, 0);
        y.addAnchor(99999, 99998);
        y.drift();
        due("no number wraps around", y, 0, 0, 99997);
        due("no number wraps around", y, 1, 49999, 99998);
        SubtitleHarbour z = with(15, 25, 20, 35, 29, 31);
        z.addAnchor(10, 10);
        z.addAnchor(20, 30);
        z.addAnchor(30, 35);
        CHECK.due("three anchors", z.drift(), 6);
        due("between the first and the second", z, 0, 20, 32);
        due("at the second", z, 1, 30, 40);
        due("ahead of the third, and behind it", z, 2, 34, 36);
    }

    private static void aheadAndBehind() {
        CHECK.says("ahead of the first anchor and behind the last one, it moves as that does");
        SubtitleHarbour x = with(9, 10, 0, 9, 30, 31, 31, 1000);
        x.addAnchor(10, 15);
        x.addAnchor(30, 95);
        CHECK.due("all eight", x.drift(), 8);
        due("ahead of the first one, and at it", x, 0, 14, 15);
        due("farther ahead", x, 1, 5, 14);
        due("at the last one, and behind it", x, 2, 95, 96);
        due("farther behind", x, 3, 96, 1065);
        SubtitleHarbour y = with(5, 15, 10, 20);
        y.addAnchor(10, 7);
        CHECK.due("one anchor is the first and the last one", y.drift(), 4);
        due("one anchor", y, 0, 2, 12);
        due("one anchor", y, 1, 7, 17);
        SubtitleHarbour z = with(5, 15);
        z.addAnchor(10, 10);
        CHECK.due("nothing moves", z.drift(), 0);
    }

    private static void clamped() {
        CHECK.says("less than 0 is 0, more than 99999 is 99999, and for a first frame more than 99998 is 99998; ends as"
                + " above");
        SubtitleHarbour x = with(9, 10, 10, 11, 11, 12, 0, 11);
        x.addAnchor(10, 0);
        CHECK.due("down", x.drift(), 7);
        due("-1 and 0", x, 0, 0, 1);
        due("0 and 1", x, 1, 0, 1);
        due("1 and 2", x, 2, 1, 2);
        due("-10 and 1", x, 3, 0, 1);
        SubtitleHarbour y = with(100, 101, 99, 100, 98, 99, 0, 101, 5000, 99999);
        y.addAnchor(100, 99999);
        CHECK.due("up", y.drift(), 9);
        due("99999 and 100000", y, 0, 99998, 99999);
        due("99998 and 99999", y, 1, 99998, 99999);
        due("99997 and 99998", y, 2, 99997, 99998);
        due("99899 and 100000", y, 3, 99899, 99999);
        due("far behind", y, 4, 99998, 99999);
        SubtitleHarbour z = with(10, 19, 10, 20);
        z.addAnchor(10, 50);
        z.addAnchor(20, 51);
        z.drift();
        due("an end at least 1 more than the first frame", z, 0, 50, 51);
        due("an end 1 more by itself", z, 1, 50, 51);
    }

    private static void anchorsAreGone() {
        CHECK.says("The anchors are gone then.");
        SubtitleHarbour x = with(10, 20);
        x.addAnchor(10, 11);
        x.drift();
        CHECK.badState("none is left", x::drift);
        due("moved once", x, 0, 11, 21);
        CHECK.due("a lower one is the first one now", x.addAnchor(5, 5), 1);
        CHECK.says("Throws IllegalStateException if there are no anchors");
        CHECK.badState("a new object", () -> new SubtitleHarbour().drift());
        SubtitleHarbour y = new SubtitleHarbour();
        y.addAnchor(3, 4);
        CHECK.due("anchors without cues", y.drift(), 0);
        CHECK.badState("they are gone, too", y::drift);
    }
}
