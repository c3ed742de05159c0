/** Long runs of mixed calls, each answer compared with that of the plain model. */
public final class ModelTest {
    private static final Check CHECK = new Check("ModelTest");
    private static final int RUNS = 600;
    private static final int CALLS = 512;
    private static final String KINDS = "trdpecxnbmk";

    private long seed;
    private final int span;
    private final int focus;
    private SubtitleHarbour x = new SubtitleHarbour();
    private Model m = new Model();
    private final StringBuilder log = new StringBuilder();

    private ModelTest(int run) {
        seed = run * 7919L + 17;
        int[] spans = {12, 40, 150, 600, 3000, 100000};
        span = spans[run % spans.length];
        focus = run / spans.length % 4;
    }

    public static void main(String[] args) {
        for (int run = 0; run < RUNS; run++) {
            new ModelTest(run).play(run);
        }
        CHECK.end();
    }

    private int below(int bound) {
        seed = seed * 6364136223846793005L + 1442695040888963407L;
        return (int) ((seed >>> 33) % bound);
    }

    /** Mostly a frame within the span, now and then one at an edge or none at all. */
    private int frame() {
        int dice = below(60);
        int[] edges = {-1, 100000, 0, 99999, 99998, Integer.MAX_VALUE, Integer.MIN_VALUE};
        return dice < edges.length && below(3) == 0 ? edges[dice] : below(span);
    }

    private int number(int least, int most) {
        return below(30) == 0 ? least - 1 - below(2) * 1000 : below(30) == 0 ? most + 1 : least + below(most - least + 1);
    }

    private int cue() {
        return number(0, focus == 1 ? 23 : 8);
    }

    private int word() {
        return below(20) == 0 ? number(1, 99) : 1 + below(focus == 2 ? 4 : 12);
    }

    private void play(int run) {
        for (int call = 0; call < CALLS; call++) {
            if (focus == 0 || focus == 3 && below(2) == 0) {
                codeCall();
            } else if (below(3) > 0) {
                cueCall();
            } else {
                changeCall();
            }
        }
        CHECK.dueText("sound in run " + run, log.toString(), "");
    }

    private void same(String what, Check.Call got, Check.Call want) {
        String answer = Check.outcome(got);
        String due = Check.outcome(want);
        CHECK.dueText(what, answer, due);
        if (!answer.equals(due) && log.length() == 0) {
            log.append(what);
        }
    }

    private void codeCall() {
        int f = frame();
        int row = number(0, 7);
        int column = number(0, 19);
        char kind = below(40) == 0 ? (char) below(256) : KINDS.charAt(below(3) == 0 ? 0 : below(11));
        int value = kind == 'm' ? number(0, 159) : kind == 'r' ? number(2, 4) : number(0, kind == 't' ? 26 : 7);
        switch (below(14)) {
            case 0: same("cellAt", () -> x.cellAt(f, row, column), () -> m.cell(f, row, column)[0]); break;
            case 1: same("cellAnew", () -> x.cellAnew(f, row, column), () -> m.cell(f, row, column)[0]); break;
            case 2: same("colourAt", () -> x.colourAt(f, row, column), () -> m.cell(f, row, column)[1]); break;
            case 3: same("modeAt", () -> x.modeAt(f), () -> m.picture(f).mode); break;
            case 4: same("cursorAt", () -> x.cursorAt(f),
                    () -> m.picture(f).row * 20 + m.picture(f).column); break;
            case 5: same("shown", () -> x.shown(f), () -> m.shown(f)); break;
            case 6: same("dropCode", () -> x.dropCode(f) ? 1 : 0, () -> m.dropCode(f) ? 1 : 0); break;
            case 7: same("isSound", () -> x.isSound() ? 1 : 0, () -> 1); break;
            case 8: twice(f, kind, value); break;
            case 9: wholeRow(f, row); break;
            default: same("code", () -> x.code(f, kind, value) ? 1 : 0, () -> m.code(f, kind, value) ? 1 : 0); break;
        }
    }

    private void twice(int f, char kind, int value) {
        for (int frame = f; frame < f + 3 && frame > 0; frame++) {
            int at = frame;
            same("code again", () -> x.code(at, kind, value) ? 1 : 0, () -> m.code(at, kind, value) ? 1 : 0);
        }
    }

    private void wholeRow(int f, int row) {
        for (int column = 0; column < 3; column++) {
            int c = column;
            same("cell of a row", () -> x.cellAt(f, row, c), () -> m.cell(f, row, c)[0]);
        }
    }

    private void cueCall() {
        int c = cue();
        int f = frame();
        int row = number(0, 7);
        int place = number(0, 4);
        int region = number(0, 2);
        int end = below(5) == 0 ? frame() : f + below(1 + span / 3);
        int word = word();
        switch (below(26)) {
            case 0: same("lines", () -> x.lines(c), () -> m.lines(c)); break;
            case 1: same("wordsIn", () -> x.wordsIn(c, place), () -> m.wordsIn(c, place)); break;
            case 2: same("rowOf", () -> x.rowOf(c), () -> m.rowOf(c)); break;
            case 3: same("cueAt", () -> x.cueAt(f, row), () -> m.cueAt(f, row)); break;
            case 4: same("cueAnew", () -> x.cueAnew(f, row), () -> m.cueAt(f, row)); break;
            case 5: same("startOf", () -> x.startOf(c), () -> m.startOf(c)); break;
            case 6: same("endOf", () -> x.endOf(c), () -> m.endOf(c)); break;
            case 7: same("hear", () -> x.hear(c), () -> m.hear(c)); break;
            case 8: same("timeOf", () -> x.timeOf(c, place), () -> m.timeOf(c, place)); break;
            case 9: same("sung", () -> x.sung(c, f), () -> m.sung(c, f)); break;
            case 10: same("pairOf", () -> x.pairOf(c), () -> m.pairOf(c)); break;
            case 11: same("pairCost", () -> x.pairCost(), () -> m.pairCost()); break;
            case 12: same("readingTime", () -> x.readingTime(c), () -> m.readingTime(c)); break;
            case 13: same("speed", () -> Float.floatToIntBits(x.speed(c)),
                    () -> Float.floatToIntBits(m.speed(c))); break;
            case 14: same("meanLength", () -> Double.doubleToLongBits(x.meanLength()),
                    () -> Double.doubleToLongBits(m.meanLength())); break;
            case 15: same("isSound", () -> x.isSound() ? 1 : 0, () -> 1); break;
            case 16: same("cues", () -> x.cues(), () -> m.cues()); break;
            case 17: case 18: same("addCue", () -> x.addCue(f, end, region), () -> m.addCue(f, end, region)); break;
            case 19: same("addHeard", () -> x.addHeard(f, word), () -> m.addHeard(f, word)); break;
            default: same("addWord", () -> x.addWord(c, word), () -> m.addWord(c, word)); break;
        }
    }

    private void changeCall() {
        int c = cue();
        int f = frame();
        int other = cue();
        int top = number(0, 7);
        int rows = number(1, 8 - below(5));
        int columns = below(2) == 0 ? number(5, 40) : 5 + below(9);
        int n = below(3) == 0 ? number(1, 1001) : 900 + below(102);
        int d = below(3) == 0 ? number(1, 1001) : 900 + below(102);
        int words = number(1, 5);
        int least = below(3) == 0 ? number(1, 999) : 1 + below(20);
        int gap = number(0, below(2) == 0 ? 99 : 5);
        int reach = number(0, below(2) == 0 ? 99 : 5);
        switch (below(11)) {
            case 0: same("setRegion", () -> x.setRegion(words % 4, top, rows, columns),
                    () -> m.setRegion(words % 4, top, rows, columns)); break;
            case 1: if (below(3) == 0) { same("dropCue", () -> x.dropCue(c), () -> m.dropCue(c)); } break;
            case 2: same("addCut", () -> x.addCut(f), () -> m.addCut(f)); break;
            case 3: same("snap", () -> x.snap(reach), () -> m.snap(reach)); break;
            case 4: same("stretch", () -> x.stretch(least, gap), () -> m.stretch(least, gap)); break;
            case 5: same("merge", () -> x.merge(c, other), () -> m.merge(c, other)); break;
            case 6: same("split", () -> x.split(c, words), () -> m.split(c, words)); break;
            case 7: same("convert", () -> x.convert(n, d), () -> m.convert(n, d)); break;
            case 8: if (below(3) == 0) { same("drift", () -> x.drift(), () -> m.drift()); } break;
            default: same("addAnchor", () -> x.addAnchor(f, reach * 20), () -> m.addAnchor(f, reach * 20)); break;
        }
    }
}
