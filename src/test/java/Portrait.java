/**
 * What an object answers, as one text. The last questions change the object, so that it is of no use afterwards: they
 * tell what no other question does.
 */
final class Portrait {
    private final StringBuilder text = new StringBuilder();
    private final SubtitleHarbour x;

    private Portrait(SubtitleHarbour x) {
        this.x = x;
    }

    /** All that codes make, and how many there are. */
    static String ofCodes(SubtitleHarbour x, int... frames) {
        Portrait portrait = new Portrait(x);
        for (int frame : frames) {
            portrait.ask(() -> x.modeAt(frame));
            portrait.ask(() -> x.cursorAt(frame));
            portrait.ask(() -> x.shown(frame));
            for (int column = 0; column < 6; column++) {
                int c = column;
                portrait.ask(() -> x.cellAt(frame, 7, c));
                portrait.ask(() -> x.colourAt(frame, 7, c));
            }
        }
        for (int frame : frames) {
            portrait.ask(() -> x.dropCode(frame) ? 1 : 0);
        }
        portrait.ask(() -> x.cursorAt(99999));
        return portrait.text.toString();
    }

    /** All about cues of the numbers below one, and about what changes them. */
    static String ofCues(SubtitleHarbour x, int numbers) {
        Portrait portrait = new Portrait(x);
        portrait.ask(x::cues);
        portrait.ask(x::pairCost);
        portrait.ask(() -> x.isSound() ? 1 : 0);
        for (int cue = 0; cue <= numbers; cue++) {
            portrait.askCue(cue);
        }
        portrait.askChanges(numbers);
        return portrait.text.toString();
    }

    private void ask(Check.Call call) {
        text.append(Check.outcome(call)).append(' ');
    }

    private void askFrames(int numbers) {
        for (int cue = 0; cue < numbers; cue++) {
            int c = cue;
            ask(() -> x.startOf(c));
            ask(() -> x.endOf(c));
        }
    }

    private void askCue(int cue) {
        text.append('\n').append(cue).append(": ");
        ask(() -> x.startOf(cue));
        ask(() -> x.endOf(cue));
        ask(() -> x.rowOf(cue));
        ask(() -> x.pairOf(cue));
        ask(() -> x.readingTime(cue));
        long lines = answerOr(() -> x.lines(cue));
        for (int line = 0; line < lines; line++) {
            int asked = line;
            ask(() -> x.wordsIn(cue, asked));
        }
        for (int word = 0; word < 12 && answerOr(() -> x.sung(cue, 99999)) > 0; word++) {
            int asked = word;
            ask(() -> x.timeOf(cue, asked));
        }
    }

    private static long answerOr(Check.Call call) {
        try {
            return call.answer();
        } catch (java.util.NoSuchElementException e) {
            return 0;
        }
    }

    private void askChanges(int numbers) {
        text.append("\nchanges: ");
        ask(() -> x.hear(0));
        ask(() -> x.snap(99));
        askFrames(numbers);
        ask(() -> x.drift());
        askFrames(numbers);
        ask(() -> x.addCut(77777));
        ask(() -> x.addHeard(77777, 7));
        ask(() -> x.addAnchor(77777, 77777));
        ask(() -> x.addCue(77777, 77778, 0));
        for (int region = 0; region < 3; region++) {
            int asked = region;
            ask(() -> x.setRegion(asked, 0, 8, 20));
        }
    }
}
