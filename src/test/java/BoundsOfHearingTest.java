/** The boundary cases under 'Hearing' and of the promises 32 to 35, sentence by sentence. */
public final class BoundsOfHearingTest {
    private static final Check CHECK = new Check("BoundsOfHearingTest");

    public static void main(String[] args) {
        mostHeard();
        orderOfHeard();
        window();
        windowAtTheEdges();
        costs();
        noneAndNone();
        soonerSet();
        soonerSetToNone();
        untilHeardAnew();
        untilWordsAreChanged();
        mergedWithoutWords();
        wrongWords();
        sung();
        CHECK.end();
    }

    private static SubtitleHarbour cue(int start, int end, int... words) {
        SubtitleHarbour x = new SubtitleHarbour();
        x.addCue(start, end, 0);
        for (int word : words) {
            x.addWord(0, word);
        }
        return x;
    }

    /** A cue of the frames 100 to 400, and heard words at 100, 101 and so on. */
    private static SubtitleHarbour heard(int[] words, int... heard) {
        SubtitleHarbour x = cue(100, 400, words);
        for (int place = 0; place < heard.length; place++) {
            x.addHeard(100 + place, heard[place]);
        }
        return x;
    }

    private static int[] row(int... numbers) {
        return numbers;
    }

    /** The times are told as 0 for the heard word at 100, and -1 for none. */
    private static void due(int cost, int[] words, int[] heard, int... places) {
        SubtitleHarbour x = heard(words, heard);
        String what = java.util.Arrays.toString(words) + " by " + java.util.Arrays.toString(heard);
        CHECK.due("hear " + what, x.hear(0), cost);
        for (int word = 0; word < words.length; word++) {
            CHECK.due("word " + word + " of " + what, x.timeOf(0, word), places[word] < 0 ? -1 : 100 + places[word]);
        }
        CHECK.due("hear again " + what, x.hear(0), cost);
    }

    private static void mostHeard() {
        CHECK.says("Heard words, at most 30, have a frame and a word");
        SubtitleHarbour x = cue(100, 200, 30);
        for (int number = 1; number <= 30; number++) {
            CHECK.due("number of heard words", x.addHeard(100 + number, number), number);
        }
        CHECK.says("Throws IllegalStateException if there are 30 heard words");
        CHECK.badState("a 31st one", () -> x.addHeard(150, 1));
        CHECK.badState("a 31st one at the end", () -> x.addHeard(99999, 99));
        CHECK.due("29 are left out", x.hear(0), 29);
        CHECK.due("the 30th one", x.timeOf(0, 0), 130);
        CHECK.says("Throws IllegalArgumentException if there is no such frame or word");
        SubtitleHarbour y = new SubtitleHarbour();
        int[][] wrong = {{-1, 1}, {100000, 1}, {0, 0}, {0, 100}, {0, -1}, {Integer.MIN_VALUE, 1}, {Integer.MAX_VALUE, 1},
            {0, Integer.MIN_VALUE}, {0, Integer.MAX_VALUE}};
        for (int[] w : wrong) {
            CHECK.badArgument("addHeard " + w[0] + " " + w[1], () -> y.addHeard(w[0], w[1]));
        }
        CHECK.due("0 and 1", y.addHeard(0, 1), 1);
        CHECK.due("99999 and 99", y.addHeard(99999, 99), 2);
        CHECK.due("the same again", y.addHeard(99999, 99), 3);
    }

    private static void orderOfHeard() {
        CHECK.says("they are in the order of their frames, of several in that in which they were told");
        SubtitleHarbour x = cue(100, 200, 1, 2, 3, 4);
        x.addHeard(120, 3);
        x.addHeard(110, 1);
        x.addHeard(120, 4);
        x.addHeard(110, 2);
        CHECK.due("1 2 3 4", x.hear(0), 0);
        SubtitleHarbour y = cue(100, 200, 1, 2, 3);
        for (int word = 3; word >= 1; word--) {
            y.addHeard(100 + word, word);
        }
        CHECK.due("told backward", y.hear(0), 0);
        CHECK.due("the last one told", y.timeOf(0, 0), 101);
        SubtitleHarbour z = cue(100, 200, 1, 2);
        z.addHeard(110, 2);
        z.addHeard(110, 1);
        CHECK.due("2 1, both at one frame", z.hear(0), 3);
        CHECK.due("1 to none", z.timeOf(0, 0), -1);
        CHECK.due("2 is set", z.timeOf(0, 1), 110);
    }

    private static void window() {
        CHECK.says("its words are set to the heard ones from 30 frames ahead of its first frame to 30 behind its end,"
                + " both included");
        for (int[] w : new int[][] {{69, 0}, {70, 1}, {71, 1}, {99, 1}, {100, 1}, {199, 1}, {200, 1}, {229, 1}, {230, 1},
            {231, 0}}) {
            SubtitleHarbour x = cue(100, 200);
            x.addHeard(w[0], 5);
            CHECK.due("left out at " + w[0], x.hear(0), w[1]);
            SubtitleHarbour y = cue(100, 200, 5);
            y.addHeard(w[0], 5);
            CHECK.due("heard at " + w[0], y.hear(0), w[1] == 1 ? 0 : 2);
            CHECK.due("frame at " + w[0], y.timeOf(0, 0), w[1] == 1 ? w[0] : -1);
        }
    }

    private static void windowAtTheEdges() {
        SubtitleHarbour x = cue(0, 1, 5);
        x.addHeard(31, 5);
        CHECK.due("30 behind the end of the first frame", x.hear(0), 0);
        SubtitleHarbour y = cue(0, 1, 5);
        y.addHeard(32, 5);
        CHECK.due("31 behind", y.hear(0), 2);
        SubtitleHarbour z = cue(29, 99999, 5);
        z.addHeard(0, 5);
        z.addHeard(99999, 5);
        CHECK.due("all frames", z.hear(0), 1);
        CHECK.due("the first one", z.timeOf(0, 0), 0);
        SubtitleHarbour w = cue(99998, 99999, 5);
        w.addHeard(99967, 5);
        w.addHeard(99968, 6);
        CHECK.due("the last frame", w.hear(0), 3);
        CHECK.due("30 ahead of it", w.timeOf(0, 0), 99968);
    }

    private static void costs() {
        CHECK.says("a word set to the same word costs 0, to another one 3; a word that is set to none costs 2, a heard"
                + " one that is left out 1");
        due(0, row(5), row(5), 0);
        due(3, row(5), row(6), 0);
        due(2, row(5), row(), -1);
        due(1, row(), row(5));
        due(3, row(5, 6), row(5, 7), 0, 1);
        due(2, row(5, 6), row(5), 0, -1);
        due(2, row(5, 6), row(6), -1, 0);
        due(1, row(5), row(6, 5), 1);
        // words are numbers: 5 and 14 have as many letters, but are others
        due(3, row(5), row(14), 0);
        CHECK.says("The way that costs least is taken");
        due(3, row(1, 2, 3, 4), row(1, 9, 2, 9, 3, 9, 4), 0, 2, 4, 6);
        due(4, row(1, 2, 3, 4), row(1, 4), 0, -1, -1, 1);
        due(12, row(1, 2, 3, 4), row(5, 6, 7, 8), 0, 1, 2, 3);
        due(6, row(7, 1, 2, 3), row(1, 2, 3, 7, 8, 9, 10), -1, 0, 1, 2);
    }

    private static void noneAndNone() {
        CHECK.says("Returns what it costs.");
        due(0, row(), row());
        due(24, row(1, 1, 1, 1, 1, 1, 1, 1, 1, 1, 1, 1), row(), -1, -1, -1, -1, -1, -1, -1, -1, -1, -1, -1, -1);
        SubtitleHarbour x = cue(100, 200);
        for (int number = 0; number < 30; number++) {
            x.addHeard(100, 1 + number);
        }
        CHECK.due("30 are left out", x.hear(0), 30);
        for (int word = 1; word <= 12; word++) {
            x.addWord(0, 50 + word);
        }
        CHECK.due("12 others are set, 18 left out", x.hear(0), 12 * 3 + 18);
    }

    private static void soonerSet() {
        CHECK.says("of several, looked at from the first word and heard one on, the one that sooner sets a word");
        due(1, row(5), row(5, 5), 0);
        due(2, row(5), row(5, 5, 5), 0);
        due(4, row(5), row(6, 7), 0);
        due(1, row(5, 6), row(5, 6, 6), 0, 1);
        due(1, row(5, 6), row(5, 5, 6), 0, 2);
        due(2, row(5, 5), row(5), 0, -1);
        due(6, row(5, 6), row(7, 8), 0, 1);
        due(5, row(5, 6), row(7), 0, -1);
        due(3, row(5, 6), row(7, 6), 0, 1);
    }

    private static void soonerSetToNone() {
        CHECK.says("then the one that sooner sets a word to none");
        due(3, row(1, 2), row(2, 1), -1, 0);
        due(3, row(5, 6), row(6, 9), -1, 0);
        due(3, row(1, 2, 3), row(2, 3, 1), -1, 0, 1);
        // with the first heard one left out, three words would be set to the same ones, and it would cost as much
        due(5, row(1, 2, 1, 2), row(2, 1, 2, 1, 1, 1), -1, 0, 1, 2);
    }

    private static void untilHeardAnew() {
        CHECK.says("Each word has the frame of the one to which it is set, or none, until the cue is heard anew");
        SubtitleHarbour x = cue(100, 200, 5, 6);
        CHECK.due("not heard yet", x.timeOf(0, 0), -1);
        x.addHeard(110, 5);
        CHECK.due("not heard yet, either", x.timeOf(0, 0), -1);
        x.hear(0);
        CHECK.due("heard", x.timeOf(0, 0), 110);
        CHECK.due("none", x.timeOf(0, 1), -1);
        x.addHeard(105, 5);
        x.addHeard(120, 6);
        x.addAnchor(0, 1000);
        x.drift();
        x.stretch(500, 0);
        x.setRegion(0, 0, 8, 5);
        CHECK.due("still heard", x.timeOf(0, 0), 110);
        CHECK.due("still none", x.timeOf(0, 1), -1);
        x.addAnchor(1000, 0);
        x.drift();
        x.hear(0);
        CHECK.due("anew", x.timeOf(0, 0), 105);
        CHECK.due("anew, the second one", x.timeOf(0, 1), 120);
        x.addCue(50000, 50010, 0);
        x.addWord(1, 5);
        CHECK.due("another cue", x.hear(1), 2);
        CHECK.due("the other one stays", x.timeOf(0, 0), 105);
        x.addAnchor(0, 60000);
        x.drift();
        CHECK.due("nothing near", x.hear(0), 4);
        CHECK.due("none any more", x.timeOf(0, 0), -1);
    }

    private static SubtitleHarbour heardTwo() {
        SubtitleHarbour x = cue(100, 200, 5, 6);
        x.addHeard(110, 5);
        x.addHeard(120, 6);
        x.hear(0);
        return x;
    }

    private static void untilWordsAreChanged() {
        CHECK.says("or its words are changed");
        SubtitleHarbour x = heardTwo();
        x.addWord(0, 7);
        for (int word = 0; word < 3; word++) {
            CHECK.due("by addWord", x.timeOf(0, word), -1);
        }
        SubtitleHarbour y = heardTwo();
        y.addCue(90, 95, 0);
        y.addWord(1, 5);
        y.hear(1);
        y.merge(0, 1);
        for (int word = 0; word < 3; word++) {
            CHECK.due("by merge", y.timeOf(0, word), -1);
        }
        CHECK.due("none is sung", y.sung(0, 99999), 0);
        SubtitleHarbour z = heardTwo();
        CHECK.due("by split", z.split(0, 1), 1);
        CHECK.due("the first part", z.timeOf(0, 0), -1);
        CHECK.due("the second part", z.timeOf(1, 0), -1);
        z.hear(0);
        CHECK.due("heard anew", z.timeOf(0, 0), 110);
        SubtitleHarbour w = heardTwo();
        w.addCue(90, 95, 0);
        w.addWord(1, 7);
        w.merge(1, 0);
        for (int word = 0; word < 3; word++) {
            CHECK.due("by being merged", w.timeOf(1, word), -1);
        }
        SubtitleHarbour v = heardTwo();
        v.addCue(90, 95, 0);
        v.addWord(1, 7);
        CHECK.due("words of another cue", v.timeOf(0, 1), 120);
    }

    private static void mergedWithoutWords() {
        SubtitleHarbour x = heardTwo();
        x.addCue(90, 95, 0);
        x.merge(0, 1);
        CHECK.due("no word is changed by a cue without words", x.timeOf(0, 0), 110);
        CHECK.due("no word is changed, the second one", x.timeOf(0, 1), 120);
        SubtitleHarbour y = heardTwo();
        y.addCue(90, 95, 0);
        y.merge(1, 0);
        CHECK.due("a cue without words gets them without frames", y.timeOf(1, 0), -1);
    }

    private static void wrongWords() {
        CHECK.says("Throws IndexOutOfBoundsException if there is no such word");
        SubtitleHarbour x = heardTwo();
        for (int word : new int[] {-1, 2, 12, 13, Integer.MIN_VALUE, Integer.MAX_VALUE}) {
            CHECK.noIndex("word " + word, () -> x.timeOf(0, word));
        }
        x.addCue(0, 1, 0);
        CHECK.noIndex("without words", () -> x.timeOf(1, 0));
        x.split(0, 1);
        CHECK.noIndex("a word of the other part", () -> x.timeOf(0, 1));
        SubtitleHarbour y = cue(0, 9, 1, 2, 3, 4, 5, 6, 7, 8, 9, 10, 11, 12);
        CHECK.due("the 12th one", y.timeOf(0, 11), -1);
        CHECK.noIndex("the 13th one", () -> y.timeOf(0, 12));
    }

    private static void sung() {
        CHECK.says("Returns how many words of a cue have a frame that is not greater than a told one.");
        SubtitleHarbour x = cue(0, 30, 5, 6, 7, 8);
        CHECK.due("not heard", x.sung(0, 99999), 0);
        x.addHeard(0, 5);
        x.addHeard(20, 7);
        x.addHeard(20, 8);
        x.hear(0);
        CHECK.due("at 0", x.sung(0, 0), 1);
        CHECK.due("ahead of two", x.sung(0, 19), 1);
        CHECK.due("at two", x.sung(0, 20), 3);
        CHECK.due("a word without a frame never", x.sung(0, 99999), 3);
        x.addCue(0, 30, 0);
        CHECK.due("without words", x.sung(1, 99999), 0);
        CHECK.says("Throws IllegalArgumentException if there is no such frame");
        for (int frame : new int[] {-1, 100000, Integer.MIN_VALUE, Integer.MAX_VALUE}) {
            CHECK.badArgument("frame " + frame, () -> x.sung(0, frame));
        }
    }
}
