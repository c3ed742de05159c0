/** Promises 24 to 31: cuts, and how cues are changed. */
public final class ChangesTest {
    private static final Check CHECK = new Check("ChangesTest");

    public static void main(String[] args) {
        cuts();
        snapping();
        stretching();
        merging();
        splitting();
        wrongSplits();
        converting();
        convertedCutsAndHeard();
        wrongConversions();
        anchors();
        drifting();
        driftingToTheEdges();
        CHECK.end();
    }

    private static SubtitleHarbour withCues(int... numbers) {
        SubtitleHarbour x = new SubtitleHarbour();
        for (int place = 0; place + 2 < numbers.length; place += 3) {
            x.addCue(numbers[place], numbers[place + 1], numbers[place + 2]);
        }
        return x;
    }

    private static void dueFrames(String what, SubtitleHarbour x, int cue, int start, int end) {
        CHECK.due(what + ", first frame", x.startOf(cue), start);
        CHECK.due(what + ", end", x.endOf(cue), end);
    }

    private static void addWords(SubtitleHarbour x, int cue, int... words) {
        for (int word : words) {
            x.addWord(cue, word);
        }
    }

    private static void cuts() {
        SubtitleHarbour x = new SubtitleHarbour();
        CHECK.badArgument("cut -1", () -> x.addCut(-1));
        CHECK.badArgument("cut 100000", () -> x.addCut(100000));
        for (int cut = 0; cut < 20; cut++) {
            CHECK.due("addCut", x.addCut(cut == 19 ? 99999 : cut * 7), cut + 1);
            int again = cut * 7;
            if (cut < 19) {
                CHECK.badState("the cut is there", () -> x.addCut(again));
            }
        }
        CHECK.badState("21 cuts", () -> x.addCut(5));
        CHECK.badArgument("a wrong frame goes ahead", () -> x.addCut(-5));
    }

    private static void snapping() {
        SubtitleHarbour none = withCues(10, 20, 0);
        CHECK.due("no cuts", none.snap(99), 0);
        CHECK.badArgument("reach -1", () -> none.snap(-1));
        CHECK.badArgument("reach 100", () -> none.snap(100));

        SubtitleHarbour x = withCues(10, 50, 0, 14, 15, 1, 0, 2, 2, 200, 300, 0);
        x.addCut(14);
        x.addCut(6);
        x.addCut(52);
        x.addCut(201);
        CHECK.due("reach 0", x.snap(0), 0);
        CHECK.due("reach 1", x.snap(1), 1);
        dueFrames("within 1", x, 3, 201, 300);
        CHECK.due("reach 4", x.snap(4), 3);
        dueFrames("the lower of two as near", x, 0, 6, 52);
        dueFrames("an end that would not be greater", x, 1, 14, 15);
        dueFrames("the end alone", x, 2, 0, 6);

        SubtitleHarbour y = withCues(10, 12, 0);
        y.addCut(12);
        CHECK.due("the first frame would not be less", y.snap(5), 0);
        y.addCut(8);
        CHECK.due("the lower one is as near", y.snap(5), 1);
        dueFrames("the lower one", y, 0, 8, 12);

        SubtitleHarbour z = withCues(10, 12, 0);
        z.addCut(12);
        z.addCut(7);
        CHECK.due("another cut near does not help", z.snap(5), 0);

        SubtitleHarbour w = withCues(10, 13, 0);
        w.addCut(11);
        CHECK.due("the end looks at the new first frame", w.snap(5), 1);
        dueFrames("the end stays", w, 0, 11, 13);

        SubtitleHarbour v = withCues(10, 12, 0);
        v.addCut(9);
        v.addCut(10);
        CHECK.due("already there", v.snap(3), 0);

        SubtitleHarbour u = withCues(99, 250, 0, 1, 2, 0);
        u.dropCue(1);
        u.addCut(0);
        u.addCut(349);
        CHECK.due("the farthest reach", u.snap(99), 2);
        dueFrames("both", u, 0, 0, 349);
        CHECK.due("as far again", u.snap(99), 0);
    }

    private static void stretching() {
        SubtitleHarbour x = withCues(10, 12, 0, 30, 35, 0, 20, 22, 1, 99990, 99995, 1);
        int[][] wrong = {{0, 0}, {1000, 0}, {1, -1}, {1, 100}};
        for (int[] w : wrong) {
            CHECK.badArgument("stretch", () -> x.stretch(w[0], w[1]));
        }
        CHECK.due("nothing to stretch", x.stretch(1, 0), 0);
        CHECK.due("stretched", x.stretch(100, 3), 4);
        dueFrames("up to the gap", x, 0, 10, 27);
        dueFrames("the last of its region", x, 1, 30, 130);
        dueFrames("another region", x, 2, 20, 120);
        dueFrames("not behind the last frame", x, 3, 99990, 99999);

        SubtitleHarbour y = withCues(30, 40, 0, 10, 50, 0, 30, 60, 0);
        CHECK.due("shortened", y.stretch(1, 99), 2);
        dueFrames("at least one frame", y, 1, 10, 11);
        dueFrames("the lower number of the same first frame", y, 0, 30, 31);
        dueFrames("the last one", y, 2, 30, 60);

        SubtitleHarbour z = withCues(10, 12, 0, 11, 13, 0, 30, 31, 0);
        z.dropCue(1);
        CHECK.due("gone ones are no next ones", z.stretch(999, 0), 2);
        dueFrames("up to the next one", z, 0, 10, 30);
        dueFrames("the greatest least length", z, 2, 30, 1029);
    }

    private static void merging() {
        SubtitleHarbour x = withCues(10, 20, 0, 5, 15, 0, 30, 40, 1, 1, 99, 0);
        addWords(x, 0, 1, 2);
        addWords(x, 1, 3, 4, 5);
        CHECK.badArgument("the same", () -> x.merge(0, 0));
        CHECK.badArgument("of different regions", () -> x.merge(0, 2));
        CHECK.due("merge", x.merge(0, 1), 5);
        dueFrames("merged", x, 0, 5, 20);
        CHECK.noSuch("gone", () -> x.startOf(1));
        CHECK.due("cues", x.cues(), 3);
        CHECK.due("letters 2, 3, 4, 5, 6 and blanks", x.readingTime(0), (20 + 4) * 2000 + 5 * 300);
        addWords(x, 3, 1, 2, 3, 4, 5, 6, 7);
        CHECK.due("12 words", x.merge(3, 0), 12);
        dueFrames("merged again", x, 3, 1, 99);

        SubtitleHarbour y = withCues(10, 20, 2, 15, 25, 2);
        addWords(y, 0, 1, 2, 3, 4, 5, 6, 7);
        addWords(y, 1, 1, 2, 3, 4, 5, 6);
        CHECK.badState("13 words", () -> y.merge(0, 1));
        dueFrames("nothing is changed", y, 0, 10, 20);
        CHECK.due("nothing is gone", y.cues(), 2);

        SubtitleHarbour z = withCues(10, 20, 0, 15, 25, 0);
        addWords(z, 0, 8);
        addWords(z, 1, 9);
        z.addHeard(12, 9);
        z.addHeard(14, 8);
        CHECK.due("heard", z.hear(0), 1);
        z.merge(1, 0);
        CHECK.due("words in their order", z.hear(1), 0);
        CHECK.due("the own word first", z.timeOf(1, 0), 12);
        CHECK.due("the other one behind", z.timeOf(1, 1), 14);
    }

    private static void splitting() {
        SubtitleHarbour x = withCues(100, 200, 2);
        addWords(x, 0, 9, 1, 6);
        CHECK.due("the new one", x.split(0, 2), 1);
        dueFrames("the first part, 3 of 10 letters", x, 0, 100, 130);
        dueFrames("the second part", x, 1, 130, 200);
        CHECK.due("words of the first part", x.lines(0), 1);
        CHECK.due("words of the first part", x.wordsIn(0, 0), 2);
        CHECK.due("words of the second part", x.wordsIn(1, 0), 1);
        CHECK.due("the same region", x.pairOf(1), -1);
        CHECK.due("a word less", x.addWord(0, 5), 3);

        SubtitleHarbour y = withCues(0, 2, 0, 0, 3, 0, 10, 20, 0);
        addWords(y, 0, 9, 8);
        addWords(y, 1, 8, 9);
        addWords(y, 2, 9, 8);
        y.split(0, 1);
        dueFrames("at least 1 behind the first frame", y, 0, 0, 1);
        dueFrames("at least 1 ahead of the end", y, 3, 1, 2);
        y.split(1, 1);
        dueFrames("9 of 10 letters of 3 frames", y, 1, 0, 2);
        y.split(2, 1);
        dueFrames("rounded down, at least 1", y, 2, 10, 11);

        SubtitleHarbour z = withCues(0, 99999, 0);
        addWords(z, 0, 8, 8, 8, 8, 8, 8, 8, 8, 8, 8, 8, 9);
        z.split(0, 11);
        dueFrames("99 of 100 letters of a long one", z, 0, 0, 98999);

        SubtitleHarbour w = withCues(10, 40, 0);
        addWords(w, 0, 1, 2);
        w.addHeard(12, 1);
        w.addHeard(30, 2);
        w.hear(0);
        CHECK.due("heard", w.timeOf(0, 1), 30);
        w.split(0, 1);
        CHECK.due("the words are changed", w.timeOf(0, 0), -1);
        CHECK.due("the new one is not heard", w.timeOf(1, 0), -1);
        CHECK.noIndex("the word is gone", () -> w.timeOf(0, 1));
    }

    private static void wrongSplits() {
        SubtitleHarbour x = withCues(10, 11, 0);
        CHECK.badArgument("without words", () -> x.split(0, 0));
        addWords(x, 0, 1, 2);
        CHECK.badArgument("0 words", () -> x.split(0, 0));
        CHECK.badArgument("-1 words", () -> x.split(0, -1));
        CHECK.badArgument("all words", () -> x.split(0, 2));
        CHECK.badArgument("more words", () -> x.split(0, Integer.MAX_VALUE));
        CHECK.unsupported("one frame", () -> x.split(0, 1));
        for (int cue = 1; cue < 24; cue++) {
            x.addCue(cue, 90, 0);
        }
        CHECK.unsupported("one frame goes ahead of 24 cues", () -> x.split(0, 1));
        addWords(x, 1, 1, 2);
        CHECK.badState("24 cues", () -> x.split(1, 1));
        dueFrames("nothing is changed", x, 1, 1, 90);
    }

    private static void converting() {
        SubtitleHarbour x = withCues(7, 9, 0, 50, 99, 1, 3, 4, 2);
        x.dropCue(2);
        CHECK.due("cues", x.convert(1, 3), 2);
        dueFrames("a third, an end at least 1 more", x, 0, 2, 3);
        dueFrames("a third", x, 1, 16, 33);
        CHECK.due("cues", x.convert(1001, 1000), 2);
        dueFrames("rounded down", x, 1, 16, 33);
        CHECK.due("cues", x.convert(1001, 1), 2);
        dueFrames("the greatest number", x, 1, 16016, 33033);
        CHECK.due("cues", x.convert(1, 1001), 2);
        dueFrames("and back", x, 1, 16, 33);
        CHECK.due("cues", x.convert(1, 1000), 2);
        dueFrames("to the beginning", x, 0, 0, 1);
        dueFrames("to the beginning", x, 1, 0, 1);
        CHECK.due("no cues", new SubtitleHarbour().convert(5, 4), 0);
        SubtitleHarbour y = withCues(49998, 49999, 0, 90000, 99999, 0);
        y.convert(1001, 1001);
        dueFrames("no number wraps", y, 1, 90000, 99999);
        y.code(5, 'd', 0);
        y.convert(1, 2);
        CHECK.due("codes stay", y.modeAt(4), 'o');
        CHECK.due("codes stay", y.modeAt(5), 'd');
        y.convert(2, 1);
        dueFrames("doubled", y, 1, 90000, 99998);
    }

    private static void convertedCutsAndHeard() {
        SubtitleHarbour x = withCues(20, 40, 0);
        x.addCut(10);
        x.addCut(11);
        x.addCut(21);
        x.convert(1, 2);
        CHECK.due("cuts that become the same stay two", x.addCut(99), 4);
        CHECK.badState("the cut 5", () -> x.addCut(5));
        CHECK.badState("the cut 10", () -> x.addCut(10));
        CHECK.due("snapped to converted cuts", x.snap(9), 0);
        dueFrames("at a cut", x, 0, 10, 20);

        SubtitleHarbour y = withCues(100, 110, 0);
        addWords(y, 0, 8, 7);
        y.addHeard(101, 7);
        y.addHeard(100, 8);
        CHECK.due("by their frames", y.hear(0), 0);
        CHECK.due("first", y.timeOf(0, 0), 100);
        CHECK.due("second", y.timeOf(0, 1), 101);
        y.convert(1, 2);
        CHECK.due("frames of words stay", y.timeOf(0, 1), 101);
        CHECK.due("of the same frame as they were told", y.hear(0), 3);
        CHECK.due("sooner set to none than left out", y.timeOf(0, 0), -1);
        CHECK.due("set to the one that was told first", y.timeOf(0, 1), 50);
    }

    private static void wrongConversions() {
        SubtitleHarbour x = withCues(10, 500, 0);
        for (int[] w : new int[][] {{0, 1}, {1002, 1}, {1, 0}, {1, 1002}, {-1, -1}}) {
            CHECK.badArgument("convert", () -> x.convert(w[0], w[1]));
        }
        CHECK.unsupported("an end too great", () -> x.convert(200, 1));
        dueFrames("nothing is changed", x, 0, 10, 500);
        x.dropCue(0);
        CHECK.due("gone ones do not count", x.convert(200, 1), 0);
        x.addCut(500);
        CHECK.unsupported("a cut too great", () -> x.convert(200, 1));
        CHECK.due("a cut at the last frame", x.convert(199, 1), 0);
        CHECK.badState("there", () -> x.addCut(99500));
        SubtitleHarbour y = new SubtitleHarbour();
        y.addHeard(99999, 1);
        CHECK.unsupported("a heard word too great", () -> y.convert(1001, 1000));
        CHECK.due("as it is", y.convert(7, 7), 0);
    }

    private static void anchors() {
        SubtitleHarbour x = withCues(10, 20, 0);
        CHECK.badState("no anchors", x::drift);
        int[][] wrong = {{-1, 0}, {0, -1}, {100000, 0}, {0, 100000}};
        for (int[] w : wrong) {
            CHECK.badArgument("addAnchor", () -> x.addAnchor(w[0], w[1]));
        }
        CHECK.due("the first one", x.addAnchor(5, 50), 1);
        for (int[] w : new int[][] {{5, 60}, {6, 50}, {4, 49}, {4, 60}, {6, 49}}) {
            CHECK.badArgument("not rising", () -> x.addAnchor(w[0], w[1]));
        }
        for (int anchor = 2; anchor <= 8; anchor++) {
            CHECK.due("addAnchor", x.addAnchor(10 * anchor, 50 + anchor), anchor);
        }
        CHECK.badState("9 anchors", () -> x.addAnchor(1000, 1000));
        CHECK.badArgument("a wrong one goes ahead", () -> x.addAnchor(80, 1000));
        CHECK.due("drift", x.drift(), 2);
        CHECK.badState("the anchors are gone", x::drift);
        CHECK.due("the first one again", x.addAnchor(0, 0), 1);
    }

    private static void drifting() {
        SubtitleHarbour x = withCues(5, 10, 0, 19, 20, 0, 29, 30, 0, 35, 40, 1, 1, 2, 0);
        x.dropCue(4);
        x.addAnchor(10, 15);
        x.addAnchor(20, 45);
        x.addAnchor(30, 50);
        x.addCut(40);
        CHECK.due("drift", x.drift(), 8);
        dueFrames("ahead of the first anchor, and at it", x, 0, 10, 15);
        dueFrames("between, and at the second one", x, 1, 42, 45);
        dueFrames("rounded down, and at the last one", x, 2, 49, 50);
        dueFrames("behind the last one", x, 3, 55, 60);
        CHECK.badState("cuts stay", () -> x.addCut(40));

        SubtitleHarbour y = withCues(10, 14, 0, 11, 12, 0, 20, 24, 0);
        y.addAnchor(10, 10);
        y.addAnchor(20, 12);
        y.addAnchor(21, 22);
        CHECK.due("first frames and ends that became others", y.drift(), 5);
        dueFrames("an end at least 1 more", y, 0, 10, 11);
        dueFrames("an end at least 1 more", y, 1, 10, 11);
        dueFrames("the last anchor", y, 2, 12, 25);

        SubtitleHarbour w = withCues(65, 72, 0, 75, 76, 0, 5, 85, 0);
        for (int anchor = 1; anchor <= 8; anchor++) {
            w.addAnchor(10 * anchor, anchor == 8 ? 200 : 100 + anchor);
        }
        CHECK.due("8 anchors", w.drift(), 6);
        dueFrames("between the sixth and the eighth", w, 0, 106, 125);
        dueFrames("ahead of the eighth", w, 1, 153, 162);
        dueFrames("from ahead of the first to behind the eighth", w, 2, 96, 205);

        SubtitleHarbour z = withCues(50000, 99998, 0);
        z.addAnchor(0, 0);
        z.addAnchor(99999, 99998);
        z.drift();
        dueFrames("no number wraps", z, 0, 49999, 99997);
    }

    private static void driftingToTheEdges() {
        SubtitleHarbour x = withCues(5, 20, 0, 0, 3, 0);
        x.addAnchor(10, 0);
        CHECK.due("to the beginning", x.drift(), 3);
        dueFrames("less than 0 is 0", x, 0, 0, 10);
        dueFrames("an end at least 1 more", x, 1, 0, 1);

        SubtitleHarbour y = withCues(99990, 99999, 0, 99000, 99995, 0, 5, 9, 0);
        y.addAnchor(0, 100);
        CHECK.due("to the end", y.drift(), 5);
        dueFrames("a first frame is at most 99998", y, 0, 99998, 99999);
        dueFrames("an end is at most 99999", y, 1, 99100, 99999);
        dueFrames("moved", y, 2, 105, 109);
    }
}
