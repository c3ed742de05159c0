/** Promises 32 to 35: heard words. */
public final class HearingTest {
    private static final Check CHECK = new Check("HearingTest");

    public static void main(String[] args) {
        adding();
        costs();
        window();
        ways();
        order();
        until();
        singing();
        CHECK.end();
    }

    private static void adding() {
        SubtitleHarbour x = new SubtitleHarbour();
        for (int[] w : new int[][] {{-1, 1}, {100000, 1}, {0, 0}, {0, 100}}) {
            CHECK.badArgument("addHeard", () -> x.addHeard(w[0], w[1]));
        }
        for (int heard = 1; heard <= 30; heard++) {
            CHECK.due("addHeard", x.addHeard(heard == 1 ? 99999 : 7, heard == 2 ? 99 : 1), heard);
        }
        CHECK.badState("31 heard words", () -> x.addHeard(0, 1));
        CHECK.badArgument("a wrong word goes ahead", () -> x.addHeard(0, 0));
        x.addCue(0, 10, 0);
        CHECK.due("all are left out", x.hear(0), 29);
        SubtitleHarbour y = new SubtitleHarbour();
        y.addCue(10, 40, 0);
        for (int word = 1; word <= 12; word++) {
            y.addWord(0, word);
        }
        for (int heard = 1; heard <= 30; heard++) {
            y.addHeard(heard, heard == 30 ? 12 : 50);
        }
        CHECK.due("12 words and 30 heard ones", y.hear(0), 11 * 3 + 18);
        CHECK.due("the last word and the last heard one", y.timeOf(0, 11), 30);
        CHECK.due("the first ones", y.timeOf(0, 0), 1);
    }

    /** A cue with words, and heard words at the frames 100, 110 and so on. */
    private static SubtitleHarbour heard(int[] words, int... heard) {
        SubtitleHarbour x = new SubtitleHarbour();
        x.addCue(100, 400, 0);
        for (int word : words) {
            x.addWord(0, word);
        }
        for (int place = 0; place < heard.length; place++) {
            x.addHeard(100 + 10 * place, heard[place]);
        }
        return x;
    }

    private static void dueWay(int cost, int[] words, int[] heard, int... times) {
        SubtitleHarbour x = heard(words, heard);
        CHECK.due("hear", x.hear(0), cost);
        for (int word = 0; word < words.length; word++) {
            CHECK.due("timeOf " + word, x.timeOf(0, word), times[word]);
        }
        CHECK.noIndex("a word too many", () -> x.timeOf(0, words.length));
        CHECK.noIndex("word -1", () -> x.timeOf(0, -1));
    }

    private static void costs() {
        dueWay(0, new int[] {}, new int[] {});
        dueWay(3, new int[] {}, new int[] {1, 2, 3});
        dueWay(6, new int[] {1, 2, 3}, new int[] {}, -1, -1, -1);
        dueWay(0, new int[] {1, 2}, new int[] {1, 2}, 100, 110);
        dueWay(3, new int[] {1}, new int[] {2}, 100);
        dueWay(1, new int[] {1, 2}, new int[] {1, 3, 2}, 100, 120);
        dueWay(2, new int[] {1, 3, 2}, new int[] {1, 2}, 100, -1, 110);
        SubtitleHarbour x = new SubtitleHarbour();
        x.addCue(0, 5, 0);
        x.addWord(0, 4);
        CHECK.due("not heard yet", x.timeOf(0, 0), -1);
    }

    private static void window() {
        SubtitleHarbour x = new SubtitleHarbour();
        x.addCue(100, 200, 0);
        x.addHeard(69, 1);
        x.addHeard(231, 1);
        CHECK.due("too far", x.hear(0), 0);
        x.addHeard(70, 1);
        CHECK.due("30 ahead of the first frame", x.hear(0), 1);
        x.addHeard(230, 1);
        CHECK.due("30 behind the end", x.hear(0), 2);
        x.addCue(0, 99999, 0);
        CHECK.due("all", x.hear(1), 4);
    }

    private static void ways() {
        // the same word heard twice: the one that sooner sets a word
        dueWay(1, new int[] {1}, new int[] {1, 1}, 100);
        // two same words, one heard: the first one is set
        dueWay(2, new int[] {1, 1}, new int[] {1}, 100, -1);
        // another word costs as much as none and left out: it is set
        dueWay(3, new int[] {1, 2}, new int[] {3, 2}, 100, 110);
        // set first, and the second one to none
        dueWay(5, new int[] {1, 2}, new int[] {3}, 100, -1);
        // to set is sooner than to leave out
        dueWay(4, new int[] {1}, new int[] {2, 3}, 100);
        dueWay(2, new int[] {1}, new int[] {2, 3, 1}, 120);
        // to set one to none, then to leave out, or the other way round: both cost 3, as setting does
        dueWay(3, new int[] {5, 1}, new int[] {1, 5}, -1, 100);
        dueWay(6, new int[] {1, 2}, new int[] {3, 4}, 100, 110);
    }

    private static void order() {
        SubtitleHarbour x = new SubtitleHarbour();
        x.addCue(10, 20, 0);
        x.addWord(0, 1);
        x.addWord(0, 2);
        x.addWord(0, 3);
        x.addHeard(15, 2);
        x.addHeard(15, 3);
        x.addHeard(12, 1);
        CHECK.due("by frames, then as told", x.hear(0), 0);
        CHECK.due("first", x.timeOf(0, 0), 12);
        CHECK.due("second", x.timeOf(0, 1), 15);
        CHECK.due("third", x.timeOf(0, 2), 15);
    }

    private static void until() {
        SubtitleHarbour x = heard(new int[] {1, 2}, 1, 2);
        x.hear(0);
        x.addHeard(50, 1);
        CHECK.due("a later heard word changes nothing", x.timeOf(0, 0), 100);
        x.addAnchor(0, 500);
        x.drift();
        CHECK.due("a moved cue keeps its frames", x.timeOf(0, 1), 110);
        CHECK.due("heard anew, with nothing near", x.hear(0), 4);
        CHECK.due("none", x.timeOf(0, 0), -1);
        SubtitleHarbour y = heard(new int[] {1, 2}, 1, 2);
        y.hear(0);
        y.addWord(0, 7);
        CHECK.due("words that are changed have none", y.timeOf(0, 0), -1);
        CHECK.due("the new one has none", y.timeOf(0, 2), -1);
        y.hear(0);
        y.addCue(1, 2, 0);
        y.addWord(1, 5);
        y.dropCue(1);
        CHECK.due("words of another cue", y.timeOf(0, 0), 100);
        y.addCue(7, 9, 0);
        y.merge(0, 2);
        CHECK.due("nothing is added", y.timeOf(0, 1), 110);
    }

    private static void singing() {
        SubtitleHarbour x = heard(new int[] {1, 2, 3, 4}, 1, 2, 3);
        CHECK.due("not heard", x.sung(0, 99999), 0);
        x.hear(0);
        CHECK.due("ahead", x.sung(0, 99), 0);
        CHECK.due("at the first one", x.sung(0, 100), 1);
        CHECK.due("between", x.sung(0, 119), 2);
        CHECK.due("all that have a frame", x.sung(0, 99999), 3);
        CHECK.badArgument("frame -1", () -> x.sung(0, -1));
        CHECK.badArgument("frame 100000", () -> x.sung(0, 100000));
    }
}
