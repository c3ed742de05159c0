/** Promises 36 and 37: two languages that are paired. */
public final class PairsTest {
    private static final Check CHECK = new Check("PairsTest");

    public static void main(String[] args) {
        alone();
        costs();
        ways();
        order();
        many();
        CHECK.end();
    }

    private static void alone() {
        SubtitleHarbour x = new SubtitleHarbour();
        CHECK.due("no cues", x.pairCost(), 0);
        x.addCue(0, 5, 0);
        CHECK.due("the region 0 costs nothing", x.pairCost(), 0);
        CHECK.unsupported("the region 0", () -> x.pairOf(0));
        x.addCue(0, 5, 1);
        CHECK.due("one of the region 1 alone", x.pairCost(), 40);
        CHECK.due("alone", x.pairOf(1), -1);
        SubtitleHarbour y = new SubtitleHarbour();
        y.addCue(0, 5, 2);
        y.addCue(3, 5, 2);
        CHECK.due("two of the region 2 alone", y.pairCost(), 80);
        CHECK.due("alone", y.pairOf(1), -1);
        y.dropCue(0);
        CHECK.due("one is gone", y.pairCost(), 40);
        CHECK.noSuch("gone", () -> y.pairOf(0));
    }

    private static void costs() {
        SubtitleHarbour x = new SubtitleHarbour();
        x.addCue(100, 105, 1);
        x.addCue(120, 125, 2);
        CHECK.due("the distance of first frames", x.pairCost(), 20);
        x.addWord(0, 1);
        x.addWord(0, 1);
        CHECK.due("5 times that of words", x.pairCost(), 30);
        x.addWord(1, 1);
        x.addWord(1, 1);
        x.addWord(1, 1);
        CHECK.due("more words on the other side", x.pairCost(), 25);
        CHECK.due("paired", x.pairOf(0), 1);
        CHECK.due("paired", x.pairOf(1), 0);
        x.addAnchor(0, 0);
        x.addAnchor(10, 30);
        x.drift();
        CHECK.due("behind the last anchor", x.pairCost(), 25);
        x.convert(3, 1);
        CHECK.due("farther", x.pairCost(), 65);
        x.convert(3, 2);
        CHECK.due("too far", x.pairCost(), 80);
        CHECK.due("alone", x.pairOf(0), -1);
        CHECK.due("alone", x.pairOf(1), -1);
    }

    private static void ways() {
        SubtitleHarbour x = new SubtitleHarbour();
        x.addCue(0, 5, 1);
        x.addCue(80, 85, 2);
        CHECK.due("as dear as both alone", x.pairCost(), 80);
        CHECK.due("a pair goes ahead", x.pairOf(0), 1);

        SubtitleHarbour y = new SubtitleHarbour();
        y.addCue(0, 5, 1);
        y.addCue(20, 25, 1);
        y.addCue(10, 15, 2);
        CHECK.due("one pair, one alone", y.pairCost(), 50);
        CHECK.due("the first one is paired", y.pairOf(0), 2);
        CHECK.due("the second one is alone", y.pairOf(1), -1);
        CHECK.due("its pair", y.pairOf(2), 0);

        SubtitleHarbour z = new SubtitleHarbour();
        z.addCue(0, 5, 1);
        z.addCue(50, 60, 2);
        z.addCue(60, 70, 1);
        z.addCue(0, 9, 2);
        z.addCue(200, 300, 1);
        CHECK.due("three pairs would cost more", z.pairCost(), 0 + 10 + 40);
        CHECK.due("in their order", z.pairOf(0), 3);
        CHECK.due("in their order", z.pairOf(2), 1);
        CHECK.due("alone", z.pairOf(4), -1);
        // pairs do not cross
        z.addWord(3, 1);
        CHECK.due("a word more", z.pairCost(), 55);
    }

    private static void many() {
        for (int region = 1; region <= 2; region++) {
            SubtitleHarbour x = new SubtitleHarbour();
            SubtitleHarbour y = new SubtitleHarbour();
            for (int cue = 0; cue < 24; cue++) {
                x.addCue(cue * 100, cue * 100 + 5, region);
                y.addCue(cue * 100, cue * 100 + 5, cue == 23 ? region : 3 - region);
            }
            CHECK.due("24 alone", x.pairCost(), 24 * 40);
            CHECK.due("the last one alone", x.pairOf(23), -1);
            CHECK.due("24 alone but for two", y.pairCost(), 24 * 40);
            SubtitleHarbour z = new SubtitleHarbour();
            for (int cue = 0; cue < 23; cue++) {
                z.addCue(cue * 100, cue * 100 + 5, region);
            }
            z.addCue(2201, 2205, 3 - region);
            CHECK.due("22 alone and a pair", z.pairCost(), 22 * 40 + 1);
            CHECK.due("the last one of 23", z.pairOf(22), 23);
            CHECK.due("its pair", z.pairOf(23), 22);
        }
    }

    private static void order() {
        SubtitleHarbour x = new SubtitleHarbour();
        x.addCue(10, 20, 2);
        x.addCue(10, 90, 1);
        x.addCue(10, 90, 1);
        x.addCue(5, 90, 1);
        CHECK.due("cost", x.pairCost(), 80);
        CHECK.due("the first one with the least cost", x.pairOf(1), 0);
        CHECK.due("ahead of it", x.pairOf(3), -1);
        CHECK.due("behind it", x.pairOf(2), -1);
    }
}
