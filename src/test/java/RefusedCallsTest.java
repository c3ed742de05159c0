import java.util.NoSuchElementException;
import java.util.function.Supplier;

/**
 * "A method that throws an exception changes nothing. If several exceptions apply, the one that is listed first is
 * thrown." Each refused call is made on one of two objects that were made alike; both answer the same afterwards.
 */
public final class RefusedCallsTest {
    private static final Check CHECK = new Check("RefusedCallsTest");
    private static final int[] FRAMES = {0, 1, 2, 3, 4, 5, 8, 9, 50, 99999};

    private static final Class<? extends RuntimeException> ARGUMENT = IllegalArgumentException.class;
    private static final Class<? extends RuntimeException> STATE = IllegalStateException.class;
    private static final Class<? extends RuntimeException> NO_SUCH = NoSuchElementException.class;
    private static final Class<? extends RuntimeException> NO_INDEX = IndexOutOfBoundsException.class;
    private static final Class<? extends RuntimeException> UNSUPPORTED = UnsupportedOperationException.class;

    private interface Deed {
        long on(SubtitleHarbour x);
    }

    public static void main(String[] args) {
        CHECK.says("A method that throws an exception changes nothing.");
        refusedCodes();
        refusedCues();
        refusedChanges();
        refusedWhenFull();
        refusedQueries();
        CHECK.says("If several exceptions apply, the one that is listed first is thrown.");
        firstOfCodes();
        firstOfCues();
        firstOfChanges();
        firstOfSplit();
        firstOfTheRest();
        CHECK.end();
    }

    private static SubtitleHarbour codes() {
        SubtitleHarbour x = new SubtitleHarbour();
        x.code(0, 'r', 3);
        x.code(1, 'k', 4);
        x.code(2, 't', 1);
        x.code(3, 'c', 0);
        x.code(4, 'c', 0);
        x.code(5, 't', 2);
        x.code(99999, 't', 3);
        return x;
    }

    private static SubtitleHarbour fullCodes() {
        SubtitleHarbour x = codes();
        for (int code = 7; code < 200; code++) {
            x.code(100 + code, 't', code % 27);
        }
        return x;
    }

    /** Five cues, of which one is gone, with words, cuts, anchors and heard words. */
    private static SubtitleHarbour cues() {
        SubtitleHarbour x = new SubtitleHarbour();
        x.setRegion(0, 1, 6, 9);
        x.setRegion(2, 2, 5, 12);
        int[][] frames = {{10, 40, 0}, {20, 60, 1}, {30, 31, 0}, {22, 70, 2}, {5, 9, 0}, {35, 90, 0}};
        for (int[] cue : frames) {
            int made = x.addCue(cue[0], cue[1], cue[2]);
            for (int word = 0; word < (made == 5 ? 12 : 3 + made % 2); word++) {
                x.addWord(made, 1 + (7 * made + 5 * word) % 40);
            }
        }
        x.dropCue(4);
        addMarks(x);
        x.hear(0);
        x.hear(1);
        x.hear(5);
        return x;
    }

    private static void addMarks(SubtitleHarbour x) {
        x.addCut(12);
        x.addCut(33);
        x.addAnchor(10, 30);
        x.addAnchor(30, 80);
        x.addHeard(11, 1);
        x.addHeard(15, 6);
        x.addHeard(25, 8);
    }

    /** All that can be full is full, and cue 23 has 2 frames and 12 words, cue 22 one frame and 2 words. */
    private static SubtitleHarbour full() {
        SubtitleHarbour x = new SubtitleHarbour();
        for (int number = 0; number < 24; number++) {
            x.addCue(10 * number, 10 * number + (number == 22 ? 1 : number == 23 ? 2 : 15), number % 3);
        }
        for (int word = 1; word <= 12; word++) {
            x.addWord(23, word);
        }
        for (int cue = 20; cue < 23; cue++) {
            x.addWord(cue, 5);
            x.addWord(cue, 6);
        }
        x.dropCue(3);
        for (int number = 0; number < 30; number++) {
            x.addHeard(number, 1 + number);
            if (number < 20) {
                x.addCut(13 * number);
            }
            if (number < 8) {
                x.addAnchor(20 * number, 25 * number);
            }
        }
        return x;
    }

    private static void refused(String what, Class<? extends RuntimeException> want, Supplier<SubtitleHarbour> maker,
            Deed deed) {
        SubtitleHarbour x = maker.get();
        SubtitleHarbour untouched = maker.get();
        CHECK.dueThrow(what, want, () -> deed.on(x));
        CHECK.dueThrow(what + ", again", want, () -> deed.on(x));
        CHECK.dueText(what + ", codes", Portrait.ofCodes(x, FRAMES), Portrait.ofCodes(untouched, FRAMES));
        CHECK.dueText(what + ", cues", Portrait.ofCues(x, 6), Portrait.ofCues(untouched, 6));
    }

    private static void refusedCodes() {
        refused("a kind", ARGUMENT, RefusedCallsTest::codes, x -> x.code(2, 'z', 0) ? 1 : 0);
        refused("a letter", ARGUMENT, RefusedCallsTest::codes, x -> x.code(2, 't', 27) ? 1 : 0);
        refused("rows", ARGUMENT, RefusedCallsTest::codes, x -> x.code(0, 'r', 5) ? 1 : 0);
        refused("a place", ARGUMENT, RefusedCallsTest::codes, x -> x.code(2, 'm', 160) ? 1 : 0);
        refused("a colour", ARGUMENT, RefusedCallsTest::codes, x -> x.code(1, 'k', 8) ? 1 : 0);
        refused("a frame", ARGUMENT, RefusedCallsTest::codes, x -> x.code(100000, 't', 1) ? 1 : 0);
        refused("a frame to drop", ARGUMENT, RefusedCallsTest::codes, x -> x.dropCode(100000) ? 1 : 0);
        refused("a frame to drop", ARGUMENT, RefusedCallsTest::codes, x -> x.dropCode(-1) ? 1 : 0);
        refused("the 201st code", STATE, RefusedCallsTest::fullCodes, x -> x.code(50, 'x', 0) ? 1 : 0);
        refused("the 201st code, behind", STATE, RefusedCallsTest::fullCodes, x -> x.code(99998, 'x', 0) ? 1 : 0);
    }

    private static void refusedCues() {
        refused("a region", ARGUMENT, RefusedCallsTest::cues, x -> x.setRegion(3, 0, 8, 20));
        refused("a top", ARGUMENT, RefusedCallsTest::cues, x -> x.setRegion(0, 8, 1, 20));
        refused("rows", ARGUMENT, RefusedCallsTest::cues, x -> x.setRegion(0, 1, 8, 20));
        refused("columns", ARGUMENT, RefusedCallsTest::cues, x -> x.setRegion(0, 0, 8, 41));
        refused("few columns", ARGUMENT, RefusedCallsTest::cues, x -> x.setRegion(2, 0, 8, 4));
        refused("a cue's end", ARGUMENT, RefusedCallsTest::cues, x -> x.addCue(10, 10, 0));
        refused("a cue's region", ARGUMENT, RefusedCallsTest::cues, x -> x.addCue(10, 11, 3));
        refused("a cue's frame", ARGUMENT, RefusedCallsTest::cues, x -> x.addCue(10, 100000, 0));
        refused("a word of a gone cue", NO_SUCH, RefusedCallsTest::cues, x -> x.addWord(4, 1));
        refused("a word", ARGUMENT, RefusedCallsTest::cues, x -> x.addWord(0, 100));
        refused("a word of a heard cue", ARGUMENT, RefusedCallsTest::cues, x -> x.addWord(1, 0));
        refused("a 13th word", STATE, RefusedCallsTest::cues, x -> x.addWord(5, 1));
        refused("a gone cue", NO_SUCH, RefusedCallsTest::cues, x -> x.dropCue(4));
        refused("a cue that never was", NO_SUCH, RefusedCallsTest::cues, x -> x.dropCue(6));
    }

    private static void refusedChanges() {
        refused("a cut", ARGUMENT, RefusedCallsTest::cues, x -> x.addCut(100000));
        refused("a cut that is there", STATE, RefusedCallsTest::cues, x -> x.addCut(33));
        refused("a reach", ARGUMENT, RefusedCallsTest::cues, x -> x.snap(100));
        refused("a least length", ARGUMENT, RefusedCallsTest::cues, x -> x.stretch(1000, 5));
        refused("a gap", ARGUMENT, RefusedCallsTest::cues, x -> x.stretch(999, 100));
        refused("merging with a gone one", NO_SUCH, RefusedCallsTest::cues, x -> x.merge(0, 4));
        refused("merging a gone one", NO_SUCH, RefusedCallsTest::cues, x -> x.merge(4, 0));
        refused("merging with itself", ARGUMENT, RefusedCallsTest::cues, x -> x.merge(0, 0));
        refused("merging regions", ARGUMENT, RefusedCallsTest::cues, x -> x.merge(1, 3));
        refused("merging too many words", STATE, RefusedCallsTest::cues, x -> x.merge(0, 5));
        refused("merging too many words", STATE, RefusedCallsTest::cues, x -> x.merge(5, 0));
        refused("splitting a gone one", NO_SUCH, RefusedCallsTest::cues, x -> x.split(4, 1));
        refused("splitting at 0", ARGUMENT, RefusedCallsTest::cues, x -> x.split(0, 0));
        refused("splitting at all", ARGUMENT, RefusedCallsTest::cues, x -> x.split(0, 3));
        refused("splitting one frame", UNSUPPORTED, RefusedCallsTest::cues, x -> x.split(2, 1));
        refused("a rate", ARGUMENT, RefusedCallsTest::cues, x -> x.convert(1002, 1));
        refused("a rate of 0", ARGUMENT, RefusedCallsTest::cues, x -> x.convert(2, 0));
        refused("the last cue alone would be too great", UNSUPPORTED, () -> {
            SubtitleHarbour y = cues();
            y.addCue(60000, 60001, 0);
            return y;
        }, x -> x.convert(2, 1));
        refused("the last cut alone would be too great", UNSUPPORTED, () -> {
            SubtitleHarbour y = cues();
            y.addCut(60000);
            return y;
        }, x -> x.convert(2, 1));
        refused("the last heard word alone would be too great", UNSUPPORTED, () -> {
            SubtitleHarbour y = cues();
            y.addHeard(60000, 1);
            return y;
        }, x -> x.convert(2, 1));
        refused("an anchor", ARGUMENT, RefusedCallsTest::cues, x -> x.addAnchor(30, 90));
        refused("an anchor", ARGUMENT, RefusedCallsTest::cues, x -> x.addAnchor(40, 80));
        refused("a heard word", ARGUMENT, RefusedCallsTest::cues, x -> x.addHeard(5, 100));
        refused("a heard word's frame", ARGUMENT, RefusedCallsTest::cues, x -> x.addHeard(-1, 5));
        refused("hearing a gone one", NO_SUCH, RefusedCallsTest::cues, x -> x.hear(4));
        refused("no anchors", STATE, () -> {
            SubtitleHarbour y = cues();
            y.drift();
            return y;
        }, SubtitleHarbour::drift);
    }

    private static void refusedOfFull(String what, Class<? extends RuntimeException> want, Deed deed) {
        SubtitleHarbour x = full();
        CHECK.dueThrow(what, want, () -> deed.on(x));
        CHECK.dueText(what + ", cues", Portrait.ofCues(x, 24), Portrait.ofCues(full(), 24));
    }

    private static void refusedWhenFull() {
        refusedOfFull("a 25th cue", STATE, x -> x.addCue(1, 2, 0));
        refusedOfFull("a 25th cue by splitting", STATE, x -> x.split(23, 1));
        refusedOfFull("a 13th word", STATE, x -> x.addWord(23, 1));
        refusedOfFull("a 13th word by merging", STATE, x -> x.merge(20, 23));
        refusedOfFull("a 21st cut", STATE, x -> x.addCut(1));
        refusedOfFull("a 9th anchor", STATE, x -> x.addAnchor(99999, 99999));
        refusedOfFull("a 31st heard word", STATE, x -> x.addHeard(1, 1));
    }

    private static void refusedQueries() {
        refused("cellAt", ARGUMENT, RefusedCallsTest::codes, x -> x.cellAt(99999, 8, 0));
        refused("cellAnew", ARGUMENT, RefusedCallsTest::codes, x -> x.cellAnew(99999, 0, 20));
        refused("colourAt", ARGUMENT, RefusedCallsTest::codes, x -> x.colourAt(0, -1, 0));
        refused("modeAt", ARGUMENT, RefusedCallsTest::codes, x -> x.modeAt(100000));
        refused("cursorAt", ARGUMENT, RefusedCallsTest::codes, x -> x.cursorAt(-1));
        refused("shown", ARGUMENT, RefusedCallsTest::codes, x -> x.shown(100000));
        refused("cueAt", ARGUMENT, RefusedCallsTest::cues, x -> x.cueAt(25, 8));
        refused("cueAnew", ARGUMENT, RefusedCallsTest::cues, x -> x.cueAnew(25, 8));
        refused("wordsIn", NO_INDEX, RefusedCallsTest::cues, x -> x.wordsIn(0, 9));
        refused("timeOf", NO_INDEX, RefusedCallsTest::cues, x -> x.timeOf(0, 9));
        refused("sung", ARGUMENT, RefusedCallsTest::cues, x -> x.sung(0, 100000));
        refused("pairOf", UNSUPPORTED, RefusedCallsTest::cues, x -> x.pairOf(0));
        refused("speed", NO_SUCH, RefusedCallsTest::cues, x -> (long) x.speed(4));
    }

    private static void first(String what, Class<? extends RuntimeException> want, SubtitleHarbour x, Deed deed) {
        CHECK.dueThrow(what, want, () -> deed.on(x));
    }

    private static void firstOfCodes() {
        SubtitleHarbour x = fullCodes();
        first("a frame, of 200 codes", ARGUMENT, x, y -> y.code(100000, 't', 0) ? 1 : 0);
        first("a kind, of 200 codes", ARGUMENT, x, y -> y.code(50, 'q', 0) ? 1 : 0);
        first("a value, of 200 codes", ARGUMENT, x, y -> y.code(50, 't', 27) ? 1 : 0);
        first("200 codes alone", STATE, x, y -> y.code(50, 't', 26) ? 1 : 0);
        first("a value in place of a code", ARGUMENT, x, y -> y.code(2, 't', 27) ? 1 : 0);
    }

    private static void firstOfCues() {
        SubtitleHarbour x = full();
        first("a frame, of 24 cues", ARGUMENT, x, y -> y.addCue(-1, 5, 0));
        first("an end, of 24 cues", ARGUMENT, x, y -> y.addCue(5, 5, 0));
        first("a region, of 24 cues", ARGUMENT, x, y -> y.addCue(5, 6, 3));
        first("24 cues alone", STATE, x, y -> y.addCue(5, 6, 2));
        first("no cue and no word", NO_SUCH, x, y -> y.addWord(24, 0));
        first("a gone cue and no word", NO_SUCH, x, y -> y.addWord(3, 100));
        first("no word, of 12 words", ARGUMENT, x, y -> y.addWord(23, 0));
        first("12 words alone", STATE, x, y -> y.addWord(23, 99));
        first("no cue and no line", NO_SUCH, x, y -> y.wordsIn(3, -1));
        first("no line alone", NO_INDEX, x, y -> y.wordsIn(2, 0));
    }

    private static void firstOfChanges() {
        SubtitleHarbour x = full();
        first("a frame, of 20 cuts", ARGUMENT, x, y -> y.addCut(-1));
        first("20 cuts and one that is there", STATE, x, y -> y.addCut(13));
        first("no cue, and the same", NO_SUCH, x, y -> y.merge(3, 3));
        first("no cue at all, and the same", NO_SUCH, x, y -> y.merge(-1, -1));
        first("no cue, of another region", NO_SUCH, x, y -> y.merge(3, 1));
        first("no other cue, of another region", NO_SUCH, x, y -> y.merge(1, 3));
        first("the same, with more than 12 words", ARGUMENT, x, y -> y.merge(23, 23));
        first("another region, with more than 12 words", ARGUMENT, x, y -> y.merge(23, 22));
        first("more than 12 words alone", STATE, x, y -> y.merge(23, 20));
        first("a rate, and frames that would be too great", ARGUMENT, x, y -> y.convert(1002, 1));
        first("a rate of 0, and frames that would be too great", ARGUMENT, x, y -> y.convert(1001, 0));
        first("frames that would be too great alone", UNSUPPORTED, x, y -> y.convert(1001, 1));
    }

    private static void firstOfSplit() {
        SubtitleHarbour x = full();
        first("no cue, and no words", NO_SUCH, x, y -> y.split(3, 0));
        first("too few words of one frame, of 24 cues", ARGUMENT, x, y -> y.split(22, 0));
        first("too many words of one frame, of 24 cues", ARGUMENT, x, y -> y.split(22, 2));
        first("one frame, of 24 cues", UNSUPPORTED, x, y -> y.split(22, 1));
        first("too many words, of 24 cues", ARGUMENT, x, y -> y.split(23, 12));
        first("24 cues alone", STATE, x, y -> y.split(23, 1));
    }

    private static void firstOfTheRest() {
        SubtitleHarbour x = full();
        first("a frame, of 8 anchors", ARGUMENT, x, y -> y.addAnchor(-1, 99999));
        first("not rising, of 8 anchors", ARGUMENT, x, y -> y.addAnchor(140, 99999));
        first("8 anchors alone", STATE, x, y -> y.addAnchor(141, 176));
        first("a frame, of 30 heard words", ARGUMENT, x, y -> y.addHeard(100000, 1));
        first("a word, of 30 heard words", ARGUMENT, x, y -> y.addHeard(5, 0));
        first("30 heard words alone", STATE, x, y -> y.addHeard(5, 1));
        first("no cue and no such word", NO_SUCH, x, y -> y.timeOf(3, -1));
        first("no such word alone", NO_INDEX, x, y -> y.timeOf(2, 0));
        first("no cue and no frame", NO_SUCH, x, y -> y.sung(3, -1));
        first("no frame alone", ARGUMENT, x, y -> y.sung(2, -1));
        first("a gone cue of the region 0", NO_SUCH, x, y -> y.pairOf(3));
        first("the region 0 alone", UNSUPPORTED, x, y -> y.pairOf(0));
        first("a gone cue, and no cues", NO_SUCH, new SubtitleHarbour(), y -> (long) y.speed(0));
    }
}
