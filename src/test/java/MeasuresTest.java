/** Promises 38 to 41: measures of cues, and soundness. */
public final class MeasuresTest {
    private static final Check CHECK = new Check("MeasuresTest");

    public static void main(String[] args) {
        readingTimes();
        speeds();
        means();
        soundness();
        CHECK.end();
    }

    private static void readingTimes() {
        SubtitleHarbour x = new SubtitleHarbour();
        x.addCue(0, 10, 0);
        CHECK.due("without words", x.readingTime(0), 0);
        x.addWord(0, 9);
        CHECK.due("one letter", x.readingTime(0), 2300);
        x.addWord(0, 98);
        CHECK.due("1 and 9 letters and a blank", x.readingTime(0), 22600);
        x.setRegion(0, 0, 8, 5);
        CHECK.due("whatever the lines", x.readingTime(0), 22600);
    }

    private static void speeds() {
        SubtitleHarbour x = new SubtitleHarbour();
        x.addCue(10, 17, 0);
        CHECK.dueReal("without words", x.speed(0), 0.0);
        x.addWord(0, 8);
        CHECK.dueReal("9 letters", x.speed(0), 9.0f / 7.0f * 30.0f);
        x.addWord(0, 1);
        CHECK.dueReal("without blanks", x.speed(0), 11.0f / 7.0f * 30.0f);
        x.addCue(0, 99999, 0);
        x.addWord(1, 9);
        CHECK.dueReal("slow", x.speed(1), 1.0f / 99999.0f * 30.0f);
    }

    private static void means() {
        SubtitleHarbour x = new SubtitleHarbour();
        CHECK.dueThrow("no cues", ArithmeticException.class, () -> (long) x.meanLength());
        x.addCue(10, 17, 0);
        CHECK.dueReal("one cue", x.meanLength(), 7.0);
        x.addCue(0, 1, 1);
        x.addCue(0, 2, 2);
        CHECK.dueReal("three cues", x.meanLength(), 10.0 / 3.0);
        x.dropCue(1);
        CHECK.dueReal("two are left", x.meanLength(), 4.5);
        x.dropCue(0);
        x.dropCue(2);
        CHECK.dueThrow("none is left", ArithmeticException.class, () -> (long) x.meanLength());
    }

    private static void soundness() {
        SubtitleHarbour x = new SubtitleHarbour();
        CHECK.due("nothing", x.isSound(), true);
        for (int cue = 0; cue < 24; cue++) {
            x.addCue(cue * 3 % 17, 20 + cue * 5 % 11, cue % 3);
            for (int word = 0; word <= cue % 4; word++) {
                x.addWord(cue, 8);
            }
        }
        x.setRegion(1, 3, 4, 9);
        x.code(0, 'r', 4);
        for (int frame = 1; frame < 60; frame++) {
            x.code(frame, frame % 5 == 0 ? 'c' : 't', frame % 27);
        }
        CHECK.due("full", x.isSound(), true);
        CHECK.due("a jump back", x.shown(3), 3);
        CHECK.due("still sound", x.isSound(), true);
    }
}
