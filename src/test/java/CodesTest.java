/** Promises 4 to 11: codes, and what they show. */
public final class CodesTest {
    private static final Check CHECK = new Check("CodesTest");

    public static void main(String[] args) {
        putting();
        wrongCodes();
        mostCodes();
        wrongCells();
        repeats();
        repeatsAreMadeAnew();
        rolling();
        rollingFromAHigherRow();
        painting();
        popping();
        noMode();
        backing();
        moving();
        colours();
        CHECK.end();
    }

    /** Each word is a kind with a value behind it; the codes go to every second frame, so that none is a repeat. */
    private static SubtitleHarbour played(String codes) {
        SubtitleHarbour x = new SubtitleHarbour();
        int frame = 0;
        for (String code : codes.split(" ")) {
            x.code(frame, code.charAt(0), code.length() > 1 ? Integer.parseInt(code.substring(1)) : 0);
            frame += 2;
        }
        return x;
    }

    /** The letters of a row, with '.' for nothing and '_' for blanks, up to the last letter. */
    private static String row(SubtitleHarbour x, int row) {
        StringBuilder text = new StringBuilder();
        int end = 0;
        for (int column = 0; column < 20; column++) {
            int letter = x.cellAt(99999, row, column);
            CHECK.due("cellAnew " + row + " " + column, x.cellAnew(99999, row, column), letter);
            text.append(letter < 0 ? '.' : letter == 0 ? '_' : (char) ('a' + letter - 1));
            end = letter < 0 ? end : column + 1;
        }
        return text.substring(0, end);
    }

    private static void dueRow(String codes, int row, String want) {
        CHECK.dueText("row " + row + " by " + codes, row(played(codes), row), want);
    }

    private static void putting() {
        SubtitleHarbour x = new SubtitleHarbour();
        CHECK.due("first code", x.code(99999, 'd', 5), false);
        CHECK.due("code in place", x.code(99999, 'p', 5), true);
        CHECK.due("mode in place", x.modeAt(99999), 'p');
        CHECK.due("mode ahead", x.modeAt(99998), 'o');
        CHECK.due("code at 0", x.code(0, 'd', -7), false);
        CHECK.due("mode at 0", x.modeAt(0), 'd');
        CHECK.due("mode at 99998", x.modeAt(99998), 'd');
        CHECK.due("dropCode", x.dropCode(0), true);
        CHECK.due("dropCode again", x.dropCode(0), false);
        CHECK.due("mode behind a dropped code", x.modeAt(5), 'o');
        CHECK.due("mode at the end", x.modeAt(99999), 'p');
    }

    private static void wrongCodes() {
        SubtitleHarbour x = new SubtitleHarbour();
        CHECK.badArgument("frame -1", () -> x.code(-1, 't', 0) ? 1 : 0);
        CHECK.badArgument("frame 100000", () -> x.code(100000, 't', 0) ? 1 : 0);
        for (int kind = 0; kind < 65536; kind += kind < 300 ? 1 : 9973) {
            char k = (char) kind;
            boolean isKind = "trdpecxnbmk".indexOf(k) >= 0;
            SubtitleHarbour y = new SubtitleHarbour();
            String want = isKind ? "0" : "throws.IllegalArgumentException";
            CHECK.dueText("kind " + kind, Check.outcome(() -> y.code(0, k, 3) ? 1 : 0), want);
        }
        range('t', 0, 26);
        range('r', 2, 4);
        range('m', 0, 159);
        range('k', 0, 7);
        for (char kind : "dpecxnb".toCharArray()) {
            CHECK.due("any value of " + kind, x.code(kind, kind, Integer.MIN_VALUE), false);
            CHECK.due("any value of " + kind, x.code(kind, kind, Integer.MAX_VALUE), true);
        }
        CHECK.badArgument("dropCode(-1)", () -> x.dropCode(-1) ? 1 : 0);
        CHECK.badArgument("dropCode(100000)", () -> x.dropCode(100000) ? 1 : 0);
    }

    private static void range(char kind, int least, int most) {
        SubtitleHarbour x = new SubtitleHarbour();
        CHECK.badArgument(kind + " too small", () -> x.code(0, kind, least - 1) ? 1 : 0);
        CHECK.badArgument(kind + " too great", () -> x.code(0, kind, most + 1) ? 1 : 0);
        CHECK.due("nothing is changed by " + kind, x.dropCode(0), false);
        CHECK.due(kind + " least", x.code(0, kind, least), false);
        CHECK.due(kind + " most", x.code(0, kind, most), true);
    }

    private static void mostCodes() {
        SubtitleHarbour x = new SubtitleHarbour();
        for (int code = 0; code < 200; code++) {
            x.code((code * 37) % 200 * 3, 'k', 1);
        }
        CHECK.badState("201 codes", () -> x.code(1, 'k', 0) ? 1 : 0);
        CHECK.badArgument("a wrong kind goes ahead", () -> x.code(1, 'z', 0) ? 1 : 0);
        CHECK.due("in place of one", x.code(597, 'd', 0), true);
        CHECK.due("mode", x.modeAt(597), 'd');
        CHECK.due("sound with 200 codes", x.isSound(), true);
        CHECK.due("one of 200", x.dropCode(0), true);
        CHECK.due("it is gone", x.dropCode(0), false);
        CHECK.due("the last one stays", x.modeAt(597), 'd');
        CHECK.due("room again", x.code(1, 'd', 0), false);
        CHECK.due("mode at 1", x.modeAt(1), 'd');
    }

    private static void wrongCells() {
        SubtitleHarbour x = new SubtitleHarbour();
        int[][] wrong = {{-1, 0, 0}, {100000, 0, 0}, {0, -1, 0}, {0, 8, 0}, {0, 0, -1}, {0, 0, 20}};
        for (int[] w : wrong) {
            CHECK.badArgument("cellAt", () -> x.cellAt(w[0], w[1], w[2]));
            CHECK.badArgument("cellAnew", () -> x.cellAnew(w[0], w[1], w[2]));
            CHECK.badArgument("colourAt", () -> x.colourAt(w[0], w[1], w[2]));
        }
        for (int frame : new int[] {-1, 100000}) {
            CHECK.badArgument("modeAt", () -> x.modeAt(frame));
            CHECK.badArgument("cursorAt", () -> x.cursorAt(frame));
            CHECK.badArgument("shown", () -> x.shown(frame));
        }
        CHECK.due("the last cell", x.cellAt(99999, 7, 19), -1);
        CHECK.due("the last cell anew", x.cellAnew(99999, 7, 19), -1);
        CHECK.due("the last colour", x.colourAt(99999, 7, 19), -1);
    }

    private static SubtitleHarbour inARow(String codes) {
        SubtitleHarbour x = new SubtitleHarbour();
        int frame = 10;
        for (String code : codes.split(" ")) {
            if (code.charAt(0) != '-') {
                x.code(frame, code.charAt(0), code.length() > 1 ? Integer.parseInt(code.substring(1)) : 0);
            }
            frame++;
        }
        return x;
    }

    private static void repeats() {
        CHECK.due("texts are not repeats", inARow("d t1 t1 t1").cursorAt(99), 143);
        CHECK.due("the second one has no effect", inARow("d t1 t2 t3 b b").cursorAt(99), 142);
        CHECK.due("the third one has one again", inARow("d t1 t2 t3 b b b").cursorAt(99), 141);
        CHECK.due("the fourth one has none", inARow("d t1 t2 t3 b b b b").cursorAt(99), 141);
        CHECK.due("a gap between", inARow("d t1 t2 t3 b - b").cursorAt(99), 141);
        CHECK.due("another kind between", inARow("d t1 t2 t3 b k1 b").cursorAt(99), 141);
        CHECK.due("values do not count for b", inARow("d t1 t2 t3 b1 b2").cursorAt(99), 142);
        CHECK.due("values count for r", inARow("r2 t1 c - c t2 r3 r4 - r3 c c").cellAt(99, 4, 0), -1);
        CHECK.due("exchanged once by two", inARow("d t1 e e").shown(99), 0);
        CHECK.due("exchanged twice by three", inARow("d t1 e e e").shown(99), 1);
        CHECK.due("exchanged twice by four", inARow("d t1 e e e e").shown(99), 1);
        CHECK.due("a code without an effect of its own counts", inARow("b b d t1 t1 b b").cursorAt(99), 141);
        CHECK.due("the first frame", inARow("d").modeAt(10), 'd');
    }

    private static void repeatsAreMadeAnew() {
        SubtitleHarbour x = inARow("d t1 t2 t3 b b b");
        CHECK.due("three", x.cursorAt(99), 141);
        x.dropCode(14);
        CHECK.due("two are left", x.cursorAt(99), 142);
        x.code(14, 'k', 3);
        CHECK.due("two behind a colour", x.cursorAt(99), 142);
        x.code(15, 'k', 3);
        CHECK.due("a repeated colour ahead", x.cursorAt(99), 142);
        x.code(14, 'b', 0);
        CHECK.due("apart from one another", x.cursorAt(99), 141);
        CHECK.due("a frame between", x.cursorAt(14), 142);
        CHECK.due("sound", x.isSound(), true);
    }

    private static void rolling() {
        dueRow("r2 t1 t2 c t3", 7, "c");
        dueRow("r2 t1 t2 c t3", 6, "ab");
        dueRow("r2 t1 c t2 c t3", 5, "");
        dueRow("r2 t1 c t2 c t3", 6, "b");
        dueRow("r3 t1 c t2 c t3", 5, "a");
        dueRow("r4 t1 c t2 c t3 c", 4, "a");
        dueRow("r4 t1 c t2 c t3 c c", 4, "b");
        dueRow("r4 t1 c t2 c t3 c c", 3, "");
        dueRow("r4 t1 c t2 c t3 c r2 c", 5, "");
        dueRow("r4 t1 c t2 c t3 c r2 c", 6, "");
        dueRow("r4 t1 c t2 c t3 r2 c", 6, "c");
        dueRow("r4 t1 c t2 c t3 r3 c", 5, "b");
        CHECK.due("rolling again keeps what is shown", played("r2 t1 t2 r3").shown(99), 2);
        CHECK.due("rolling again keeps the cursor", played("r2 t1 t2 r3").cursorAt(99), 142);
        CHECK.due("rolling from another mode empties", played("d t1 m3 r2").shown(99), 0);
        CHECK.due("rolling from another mode puts the cursor", played("d t1 m3 r2").cursorAt(99), 140);
        CHECK.due("rolling empties the hidden one", played("p t1 r2 e").shown(99), 0);
        CHECK.due("a new line puts the column", played("r2 t1 t1 c").cursorAt(99), 140);
        CHECK.due("no new line when painting", played("d t1 c").shown(99), 1);
        CHECK.due("no new line when painting", played("d t1 c").cursorAt(99), 141);
        CHECK.due("no new line when popping", played("p t1 c e c").cursorAt(99), 141);
    }

    private static void rollingFromAHigherRow() {
        String ahead = "d m0 t1 m20 t2 m40 t3 m60 t4 m80 t5 m100 t6 e";
        SubtitleHarbour x = played("r3 m65 t1 c t2 c t3 c t4");
        CHECK.dueText("row 3", row(x, 3), "d");
        CHECK.dueText("row 2", row(x, 2), "c");
        CHECK.dueText("row 1", row(x, 1), "b");
        CHECK.dueText("row 0", row(x, 0), "");
        SubtitleHarbour y = played("r4 m25 t1 c t2 c t3");
        CHECK.dueText("row 1 of fewer", row(y, 1), "c");
        CHECK.dueText("row 0 of fewer", row(y, 0), "b");
        SubtitleHarbour z = played("r4 m5 t1 c t2 c");
        CHECK.due("row 0 alone", z.shown(99), 0);
        CHECK.due("nothing of painted rows is kept by rolling", played(ahead + " r2").shown(99), 0);
        SubtitleHarbour w = played("r4 t1 c t2 c t3 c t4 d m82 r3");
        CHECK.due("empty by another mode", w.shown(99), 0);
    }

    private static void painting() {
        dueRow("d t1 t0 t26", 7, "a_z");
        CHECK.due("blanks are shown", played("d t1 t0 t26").shown(99), 3);
        SubtitleHarbour x = played("d m38 t1 t2 t3 t4");
        CHECK.due("column 18", x.cellAt(99, 1, 18), 1);
        CHECK.due("column 19", x.cellAt(99, 1, 19), 4);
        CHECK.due("the cursor stays at 19", x.cursorAt(99), 39);
        CHECK.due("shown", x.shown(99), 2);
        CHECK.due("empty", played("d t1 x").shown(99), 0);
        CHECK.due("the cursor stays when empty", played("d t1 x").cursorAt(99), 141);
        CHECK.due("the hidden one is not shown", played("d t1 n").shown(99), 1);
    }

    private static void popping() {
        CHECK.due("hidden", played("p t1 t2").shown(99), 0);
        CHECK.due("popped", played("p t1 t2 e").shown(99), 2);
        CHECK.due("the mode by e", played("d e").modeAt(99), 'p');
        CHECK.due("exchanged", played("d t1 e t2 t3 e").shown(99), 3);
        CHECK.due("the hidden one is empty", played("p t1 n e").shown(99), 0);
        CHECK.due("the shown one is empty", played("p t1 x e").shown(99), 1);
        CHECK.due("the hidden one stays behind d", played("p t1 d t2 t3 e").shown(99), 1);
    }

    private static void noMode() {
        SubtitleHarbour x = played("t1 b c m45 t1 b");
        CHECK.due("no text without a mode", x.shown(99), 0);
        CHECK.due("the cursor goes without a mode", x.cursorAt(99), 45);
        CHECK.due("no mode", x.modeAt(99), 'o');
        CHECK.due("the colour goes without a mode", played("k5 d t1").colourAt(99, 7, 0), 5);
    }

    private static void backing() {
        dueRow("d t1 t2 t3 b", 7, "ab");
        dueRow("d t1 t2 b b b t3", 7, "c");
        CHECK.due("back at column 0", played("d t1 b b").cursorAt(99), 140);
        CHECK.due("back empties the colour", played("d k3 t1 b").colourAt(99, 7, 0), -1);
        CHECK.due("back in the hidden one", played("d t1 p b e").shown(99), 0);
        CHECK.due("back in the hidden one keeps the shown", played("d t1 p b").shown(99), 1);
        CHECK.due("back from column 19", played("d m18 t1 t2 t3 b").cellAt(99, 0, 18), -1);
        CHECK.due("back from column 19 keeps it", played("d m18 t1 t2 t3 b").cellAt(99, 0, 19), 3);
        dueRow("r2 t1 t2 b", 7, "a");
    }

    private static void moving() {
        CHECK.due("moved", played("d m159").cursorAt(99), 159);
        CHECK.due("moved when painting", played("d t1 m0").shown(99), 1);
        CHECK.due("moved in its row when rolling", played("r2 t1 m159").shown(99), 1);
        CHECK.due("moved to another row when rolling", played("r2 t1 m139").shown(99), 0);
        CHECK.due("the hidden one stays", played("r2 p t1 r2").shown(99), 0);
    }

    private static void colours() {
        SubtitleHarbour x = played("d t1 k7 t2 k1 t0");
        CHECK.due("colour at first", x.colourAt(99, 7, 0), 0);
        CHECK.due("colour 7", x.colourAt(99, 7, 1), 7);
        CHECK.due("colour of a blank", x.colourAt(99, 7, 2), 1);
        CHECK.due("colour of nothing", x.colourAt(99, 7, 3), -1);
        CHECK.due("colour ahead of it", x.colourAt(1, 7, 0), -1);
        SubtitleHarbour y = played("r2 k4 t1 c");
        CHECK.due("colours roll", y.colourAt(99, 6, 0), 4);
        CHECK.due("colours go when they roll", y.colourAt(99, 7, 0), -1);
        CHECK.due("written over", played("d k4 t1 m140 k2 t2").colourAt(99, 7, 0), 2);
    }
}
