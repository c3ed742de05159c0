import java.util.function.IntConsumer;

/** The boundary cases under 'Frames' and of the promises 1 to 3, sentence by sentence. */
public final class BoundsOfFramesTest {
    private static final Check CHECK = new Check("BoundsOfFramesTest");

    private interface FrameCall {
        long at(SubtitleHarbour x, int frame);
    }

    public static void main(String[] args) {
        framesHaveNumbers();
        thirtyInASecond();
        noPlace();
        nextMinute();
        newObject();
        wrongStamps();
        wrongPartsOfStamps();
        CHECK.end();
    }

    /** A cue, a word and a heard one, so that every method has something to work on. */
    private static SubtitleHarbour some() {
        SubtitleHarbour x = new SubtitleHarbour();
        x.addCue(10, 20, 1);
        x.addWord(0, 5);
        x.addHeard(12, 5);
        x.hear(0);
        return x;
    }

    private static void range(String what, int least, int most, FrameCall call) {
        CHECK.badArgument(what + " too small", () -> call.at(some(), least - 1));
        CHECK.badArgument(what + " far too small", () -> call.at(some(), Integer.MIN_VALUE));
        CHECK.badArgument(what + " too large", () -> call.at(some(), most + 1));
        CHECK.badArgument(what + " far too large", () -> call.at(some(), Integer.MAX_VALUE));
        IntConsumer fits = frame -> CHECK.due(what + " " + frame + " is taken",
                Check.outcome(() -> call.at(some(), frame)).startsWith("throws"), false);
        fits.accept(least);
        fits.accept(most);
    }

    private static void framesHaveNumbers() {
        CHECK.says("Frames have numbers from 0 to 99999.");
        range("stampOf", 0, 99999, (x, f) -> x.stampOf(f, 3, false));
        range("stampOf with drops", 0, 99999, (x, f) -> x.stampOf(f, 3, true));
        range("code", 0, 99999, (x, f) -> x.code(f, 'd', 0) ? 1 : 0);
        range("dropCode", 0, 99999, (x, f) -> x.dropCode(f) ? 1 : 0);
        range("cellAt", 0, 99999, (x, f) -> x.cellAt(f, 0, 0));
        range("cellAnew", 0, 99999, (x, f) -> x.cellAnew(f, 0, 0));
        range("colourAt", 0, 99999, (x, f) -> x.colourAt(f, 0, 0));
        range("modeAt", 0, 99999, (x, f) -> x.modeAt(f));
        range("cursorAt", 0, 99999, (x, f) -> x.cursorAt(f));
        range("shown", 0, 99999, (x, f) -> x.shown(f));
        range("first frame", 0, 99998, (x, f) -> x.addCue(f, 99999, 0));
        range("end", 1, 99999, (x, f) -> x.addCue(0, f, 0));
        range("cueAt", 0, 99999, (x, f) -> x.cueAt(f, 0));
        range("cueAnew", 0, 99999, (x, f) -> x.cueAnew(f, 0));
        range("addCut", 0, 99999, (x, f) -> x.addCut(f));
        range("addAnchor as it is", 0, 99999, (x, f) -> x.addAnchor(f, 5));
        range("addAnchor where it should be", 0, 99999, (x, f) -> x.addAnchor(5, f));
        range("addHeard", 0, 99999, (x, f) -> x.addHeard(f, 1));
        range("sung", 0, 99999, (x, f) -> x.sung(0, f));
    }

    private static void dueStamp(int frame, int hours, int minutes, int seconds, int part, boolean isDrop) {
        SubtitleHarbour x = new SubtitleHarbour();
        CHECK.due("frameOf " + frame, x.frameOf(hours, minutes, seconds, part, isDrop), frame);
        CHECK.due("hours of " + frame, x.stampOf(frame, 0, isDrop), hours);
        CHECK.due("minutes of " + frame, x.stampOf(frame, 1, isDrop), minutes);
        CHECK.due("seconds of " + frame, x.stampOf(frame, 2, isDrop), seconds);
        CHECK.due("frames of " + frame, x.stampOf(frame, 3, isDrop), part);
    }

    private static void thirtyInASecond() {
        CHECK.says("There are 30 in a second.");
        dueStamp(0, 0, 0, 0, 0, false);
        dueStamp(29, 0, 0, 0, 29, false);
        dueStamp(30, 0, 0, 1, 0, false);
        dueStamp(1799, 0, 0, 59, 29, false);
        dueStamp(1800, 0, 1, 0, 0, false);
        dueStamp(17999, 0, 9, 59, 29, false);
        dueStamp(18000, 0, 10, 0, 0, false);
        dueStamp(99999, 0, 55, 33, 9, false);
    }

    private static void noPlace() {
        CHECK.says("the frames 00 and 01 of each minute that is not a multiple of 10 have no place");
        SubtitleHarbour x = new SubtitleHarbour();
        for (int minute = 0; minute < 55; minute++) {
            int m = minute;
            for (int part = 0; part < 2; part++) {
                int p = part;
                if (minute % 10 == 0) {
                    dueStamp(minute / 10 * 17982 + part, 0, minute, 0, part, true);
                } else {
                    CHECK.badArgument("minute " + m + " frame " + p, () -> x.frameOf(0, m, 0, p, true));
                }
                CHECK.due("without drops", x.frameOf(0, m, 0, p, false), 1800L * m + p);
            }
            CHECK.due("02 has a place", x.stampOf(x.frameOf(0, m, 0, 2, true), 3, true), 2);
            CHECK.due("01 of the next second has a place", x.stampOf(x.frameOf(0, m, 1, 1, true), 3, true), 1);
        }
    }

    private static void nextMinute() {
        CHECK.says("the stamp behind 59 seconds and 29 frames there is that of the next minute with 02");
        dueStamp(1799, 0, 0, 59, 29, true);
        dueStamp(1800, 0, 1, 0, 2, true);
        dueStamp(3597, 0, 1, 59, 29, true);
        dueStamp(3598, 0, 2, 0, 2, true);
        dueStamp(16183, 0, 8, 59, 29, true);
        dueStamp(16184, 0, 9, 0, 2, true);
        dueStamp(17981, 0, 9, 59, 29, true);
        dueStamp(17982, 0, 10, 0, 0, true);
        dueStamp(19781, 0, 10, 59, 29, true);
        dueStamp(19782, 0, 11, 0, 2, true);
        dueStamp(99999, 0, 55, 36, 19, true);
    }

    private static void newObject() {
        CHECK.says("Creates a player without codes and cues.");
        SubtitleHarbour x = new SubtitleHarbour();
        CHECK.due("no code", x.dropCode(0), false);
        CHECK.due("nothing shown", x.shown(99999), 0);
        CHECK.due("no cues", x.cues(), 0);
        CHECK.noSuch("no cue 0", () -> x.endOf(0));
        CHECK.dueThrow("no mean", ArithmeticException.class, () -> (long) x.meanLength());
        CHECK.due("no cue on a row", x.cueAt(0, 7), -1);
        CHECK.due("no pairs", x.pairCost(), 0);
        CHECK.due("sound", x.isSound(), true);
        CHECK.due("the first cut", x.addCut(0), 1);
        CHECK.badState("no anchors", x::drift);
        CHECK.due("the first heard word", x.addHeard(0, 1), 1);
        CHECK.due("the first cue", x.addCue(0, 1, 0), 0);
        SubtitleHarbour other = new SubtitleHarbour();
        CHECK.due("objects share nothing", other.cues(), 0);
        CHECK.due("objects share no cuts", other.addCut(0), 1);
    }

    private static void wrongStamps() {
        SubtitleHarbour x = new SubtitleHarbour();
        for (boolean isDrop : new boolean[] {false, true}) {
            CHECK.says("Throws IllegalArgumentException if one is less than 0");
            for (int less : new int[] {-1, Integer.MIN_VALUE}) {
                CHECK.badArgument("hours", () -> x.frameOf(less, 0, 0, 5, isDrop));
                CHECK.badArgument("hours, with many minutes", () -> x.frameOf(less, 59, 59, 29, isDrop));
                CHECK.badArgument("minutes", () -> x.frameOf(0, less, 0, 5, isDrop));
                CHECK.badArgument("seconds", () -> x.frameOf(0, 0, less, 5, isDrop));
                CHECK.badArgument("frame", () -> x.frameOf(0, 0, 1, less, isDrop));
            }
            CHECK.says("minutes or seconds are greater than 59");
            CHECK.badArgument("minutes", () -> x.frameOf(0, 60, 0, 5, isDrop));
            CHECK.badArgument("minutes, far", () -> x.frameOf(0, Integer.MAX_VALUE, 0, 5, isDrop));
            CHECK.badArgument("seconds", () -> x.frameOf(0, 0, 60, 5, isDrop));
            CHECK.badArgument("seconds, far", () -> x.frameOf(0, 0, Integer.MAX_VALUE, 5, isDrop));
            CHECK.due("59 seconds", x.frameOf(0, 0, 59, 0, isDrop), 1770);
            CHECK.says("the frame is greater than 29");
            CHECK.badArgument("frame", () -> x.frameOf(0, 0, 0, 30, isDrop));
            CHECK.badArgument("frame, far", () -> x.frameOf(0, 0, 0, Integer.MAX_VALUE, isDrop));
            CHECK.due("29 frames", x.frameOf(0, 0, 0, 29, isDrop), 29);
            CHECK.says("or the frame would be greater than 99999");
            CHECK.badArgument("59 minutes", () -> x.frameOf(0, 59, 59, 29, isDrop));
            CHECK.badArgument("an hour", () -> x.frameOf(1, 0, 0, 0, isDrop));
            // 39769 hours and others are so many frames that the number would wrap around to a small one
            for (int hours : new int[] {39768, 39769, 39770, 39813, 1 << 27, 1 << 30, Integer.MAX_VALUE}) {
                CHECK.badArgument(hours + " hours", () -> x.frameOf(hours, 0, 0, 0, isDrop));
                CHECK.badArgument(hours + " hours and more", () -> x.frameOf(hours, 30, 30, 15, isDrop));
            }
        }
        CHECK.badArgument("100000 without drops", () -> x.frameOf(0, 55, 33, 10, false));
        CHECK.badArgument("100000 with drops", () -> x.frameOf(0, 55, 36, 20, true));
    }

    private static void wrongPartsOfStamps() {
        CHECK.says("Throws IllegalArgumentException if there is no such frame or part");
        range("part", 0, 3, (x, part) -> x.stampOf(5, part, false));
        range("part with drops", 0, 3, (x, part) -> x.stampOf(5, part, true));
    }
}
