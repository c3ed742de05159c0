/** Promises 1 to 3: a new object, and stamps. */
public final class FramesTest {
    private static final Check CHECK = new Check("FramesTest");

    public static void main(String[] args) {
        newObject();
        allStamps(true);
        allStamps(false);
        wrongStamps();
        wrongParts();
        CHECK.end();
    }

    private static void newObject() {
        SubtitleHarbour x = new SubtitleHarbour();
        CHECK.due("cues of a new object", x.cues(), 0);
        CHECK.due("shown of a new object", x.shown(99999), 0);
        CHECK.due("mode of a new object", x.modeAt(0), 'o');
        CHECK.due("cursor of a new object", x.cursorAt(0), 140);
        CHECK.due("cue of a new object", x.cueAt(0, 7), -1);
        CHECK.due("cost of a new object", x.pairCost(), 0);
        CHECK.due("a new object is sound", x.isSound(), true);
        CHECK.noSuch("startOf(0) of a new object", () -> x.startOf(0));
    }

    /** Counts through all stamps as the document tells which ones have a place. */
    private static void allStamps(boolean isDrop) {
        int hours = 0;
        int minutes = 0;
        int seconds = 0;
        int part = 0;
        for (int frame = 0; frame <= 99999; frame++) {
            SubtitleHarbour x = new SubtitleHarbour();
            String what = hours + ":" + minutes + ":" + seconds + ":" + part + " " + isDrop;
            CHECK.due("frameOf " + what, x.frameOf(hours, minutes, seconds, part, isDrop), frame);
            CHECK.due("hours of " + frame, x.stampOf(frame, 0, isDrop), hours);
            CHECK.due("minutes of " + frame, x.stampOf(frame, 1, isDrop), minutes);
            CHECK.due("seconds of " + frame, x.stampOf(frame, 2, isDrop), seconds);
            CHECK.due("frames of " + frame, x.stampOf(frame, 3, isDrop), part);
            part++;
            if (part == 30) {
                part = 0;
                seconds++;
            }
            if (seconds == 60) {
                seconds = 0;
                minutes++;
                part = isDrop && minutes % 10 != 0 ? 2 : 0;
            }
            if (minutes == 60) {
                minutes = 0;
                hours++;
            }
        }
        SubtitleHarbour x = new SubtitleHarbour();
        int h = hours;
        int m = minutes;
        int s = seconds;
        int p = part;
        CHECK.badArgument("frameOf the stamp behind the last", () -> x.frameOf(h, m, s, p, isDrop));
    }

    private static void wrongStamps() {
        SubtitleHarbour x = new SubtitleHarbour();
        CHECK.badArgument("hours -1", () -> x.frameOf(-1, 0, 0, 0, false));
        CHECK.badArgument("minutes -1", () -> x.frameOf(0, -1, 0, 0, false));
        CHECK.badArgument("seconds -1", () -> x.frameOf(0, 0, -1, 0, false));
        CHECK.badArgument("frame -1", () -> x.frameOf(0, 0, 0, -1, false));
        CHECK.badArgument("minutes 60", () -> x.frameOf(0, 60, 0, 0, false));
        CHECK.badArgument("seconds 60", () -> x.frameOf(0, 0, 60, 0, false));
        CHECK.badArgument("frame 30", () -> x.frameOf(0, 0, 0, 30, false));
        CHECK.badArgument("no place 0", () -> x.frameOf(0, 9, 0, 0, true));
        CHECK.badArgument("no place 1", () -> x.frameOf(0, 11, 0, 1, true));
        CHECK.due("place 1 at minute 20", x.frameOf(0, 20, 0, 1, true), 35965);
        CHECK.due("place 1 behind a second", x.frameOf(0, 1, 1, 1, true), 1829);
        CHECK.badArgument("many hours", () -> x.frameOf(Integer.MAX_VALUE, 0, 0, 0, false));
        CHECK.badArgument("hours that wrap", () -> x.frameOf(39769, 0, 0, 0, true));
        CHECK.badArgument("hours that wrap", () -> x.frameOf(1 << 27, 0, 0, 0, false));
        CHECK.badArgument("100000", () -> x.frameOf(0, 55, 33, 10, false));
        CHECK.due("99999", x.frameOf(0, 55, 33, 9, false), 99999);
    }

    private static void wrongParts() {
        SubtitleHarbour x = new SubtitleHarbour();
        CHECK.badArgument("frame -1", () -> x.stampOf(-1, 0, false));
        CHECK.badArgument("frame 100000", () -> x.stampOf(100000, 0, true));
        CHECK.badArgument("part -1", () -> x.stampOf(0, -1, false));
        CHECK.badArgument("part 4", () -> x.stampOf(0, 4, true));
    }
}
