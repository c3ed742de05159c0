/** The boundary cases under 'Codes' and of the promises 4 to 11, sentence by sentence. */
public final class BoundsOfCodesTest {
    private static final Check CHECK = new Check("BoundsOfCodesTest");
    private static final int LAST = 99999;

    public static void main(String[] args) {
        oneCodeAtAFrame();
        mostCodes();
        upToAFrame();
        jumpsBack();
        changedBehindAJump();
        sentTwice();
        sentThreeTimes();
        valuesOfKindsWithout();
        atFirst();
        cells();
        text();
        textAtTheEdge();
        rollingBegins();
        rollingAgain();
        modes();
        exchange();
        newLineAlone();
        newLineAtTheTop();
        newLineClearsAbove();
        emptying();
        stepsBack();
        moves();
        colours();
        wrongCodes();
        dropped();
        wrongCells();
        CHECK.end();
    }

    /** Codes from frame 0 on, each with its kind and value; "-" leaves a frame free. */
    private static SubtitleHarbour inARow(String codes) {
        return spread(codes, 1);
    }

    /** The same with a free frame between any two, so that none is sent twice. */
    private static SubtitleHarbour apart(String codes) {
        return spread(codes, 2);
    }

    private static SubtitleHarbour spread(String codes, int step) {
        SubtitleHarbour x = new SubtitleHarbour();
        int frame = 0;
        for (String code : codes.split(" ")) {
            if (!code.equals("-")) {
                int value = code.length() > 1 ? Integer.parseInt(code.substring(1)) : 0;
                x.code(frame, code.charAt(0), value);
            }
            frame += step;
        }
        return x;
    }

    /** All rows from the first one with letters on, with '/' between, '.' for nothing and '_' for blanks. */
    private static String picture(SubtitleHarbour x) {
        StringBuilder text = new StringBuilder();
        int filled = 0;
        for (int row = 0; row < 8; row++) {
            StringBuilder line = new StringBuilder();
            int end = 0;
            for (int column = 0; column < 20; column++) {
                int letter = x.cellAt(LAST, row, column);
                line.append(letter < 0 ? '.' : letter == 0 ? '_' : (char) ('a' + letter - 1));
                end = letter < 0 ? end : column + 1;
                filled += letter < 0 ? 0 : 1;
            }
            text.append(row == 0 ? "" : "/").append(line, 0, end);
        }
        CHECK.due("shown", x.shown(LAST), filled);
        return text.toString();
    }

    private static void due(String codes, String want) {
        CHECK.dueText(codes, picture(apart(codes)), want);
    }

    private static void dueCursor(String codes, int want) {
        CHECK.due("cursor by " + codes, apart(codes).cursorAt(LAST), want);
    }

    private static long put(SubtitleHarbour x, int frame, char kind, int value) {
        return x.code(frame, kind, value) ? 1 : 0;
    }

    private static void oneCodeAtAFrame() {
        CHECK.says("At most one code is at a frame");
        SubtitleHarbour x = new SubtitleHarbour();
        CHECK.due("none was there", x.code(7, 'd', 0), false);
        CHECK.due("in place of what is there", x.code(7, 'p', 0), true);
        CHECK.due("the second one alone", x.modeAt(7), 'p');
        CHECK.due("the same again", x.code(7, 'p', 9), true);
        CHECK.due("one is taken away", x.dropCode(7), true);
        CHECK.due("no other one is left", x.dropCode(7), false);
        CHECK.due("no code", x.modeAt(LAST), 'o');
        x.code(0, 'd', 0);
        x.code(1, 't', 1);
        x.code(1, 't', 2);
        CHECK.dueText("text in place of text", picture(x), "///////b");
    }

    private static void mostCodes() {
        CHECK.says("at most 200 codes are there");
        SubtitleHarbour x = new SubtitleHarbour();
        x.code(0, 'd', 0);
        for (int code = 1; code < 200; code++) {
            CHECK.due("a new one", x.code(500 * code, 't', 1), false);
        }
        CHECK.due("all 200 count", x.cursorAt(LAST), 159);
        for (int frame : new int[] {1, 499, 501, 50001, 99499, LAST}) {
            CHECK.badState("behind 200", () -> put(x, frame, 't', 2));
        }
        CHECK.says("if there are 200 codes, and none is there");
        CHECK.due("in place of the first one", x.code(0, 'd', 0), true);
        CHECK.due("in place of one between", x.code(50000, 'x', 0), true);
        CHECK.due("in place of the last one", x.code(99500, 'x', 0), true);
        CHECK.due("it counts", x.shown(LAST), 0);
        CHECK.badState("still 200", () -> put(x, LAST, 't', 2));
        CHECK.due("one is taken away", x.dropCode(50000), true);
        CHECK.due("room for one", x.code(LAST, 't', 3), false);
        CHECK.due("the new one counts", x.shown(LAST), 1);
        CHECK.badState("full again", () -> put(x, 50000, 't', 2));
        CHECK.due("a refused one is not there", x.dropCode(50000), false);
        SubtitleHarbour y = new SubtitleHarbour();
        for (int code = 199; code >= 0; code--) {
            CHECK.due("each one ahead of all others", y.code(500 * code, code == 0 ? 'd' : 't', 1), false);
        }
        CHECK.due("all 200 of them count", y.cursorAt(LAST), 159);
        CHECK.due("the first 19 of them", y.shown(500 * 19), 19);
        for (int code = 0; code < 200; code++) {
            CHECK.due("each one is taken away", y.dropCode(500 * code), true);
        }
        CHECK.due("none is left", y.modeAt(LAST), 'o');
    }

    private static void upToAFrame() {
        CHECK.says("All of them up to a frame, with it, make what is shown at this frame.");
        SubtitleHarbour x = new SubtitleHarbour();
        x.code(0, 'd', 0);
        x.code(LAST, 't', 4);
        x.code(50, 't', 3);
        CHECK.due("with it, at 0", x.modeAt(0), 'd');
        CHECK.due("ahead of one", x.cellAt(49, 7, 0), -1);
        CHECK.due("with it", x.cellAt(50, 7, 0), 3);
        CHECK.due("ahead of one, anew", x.cellAnew(49, 7, 0), -1);
        CHECK.due("with it, anew", x.cellAnew(50, 7, 0), 3);
        CHECK.due("colour ahead of one", x.colourAt(49, 7, 0), -1);
        CHECK.due("colour with it", x.colourAt(50, 7, 0), 0);
        CHECK.due("ahead of the last frame", x.shown(LAST - 1), 1);
        CHECK.due("with the last frame", x.shown(LAST), 2);
        CHECK.due("cursor ahead of it", x.cursorAt(LAST - 1), 141);
        CHECK.due("a jump back", x.shown(0), 0);
        CHECK.due("anew", x.cellAnew(LAST, 7, 1), 4);
    }

    private static void jumpsBack() {
        CHECK.says("What is shown at a frame is the same by jumping to it as by playing.");
        SubtitleHarbour moved = apart("d m33 t1");
        CHECK.due("the last cursor", moved.cursorAt(LAST), 34);
        CHECK.due("back to that of the beginning", moved.cursorAt(0), 140);
        SubtitleHarbour x = apart("d k5 m33 t1 r3 t2");
        CHECK.due("the last mode", x.modeAt(LAST), 'r');
        CHECK.due("back to the first frame, mode", x.modeAt(0), 'd');
        CHECK.due("to the last cursor", x.cursorAt(LAST), 141);
        CHECK.due("back to the first frame, cursor", x.cursorAt(0), 140);
        x.code(2, 't', 3);
        CHECK.due("a colour that is gone", x.colourAt(2, 7, 0), 0);
        CHECK.due("to the last colour", x.colourAt(LAST, 7, 0), 0);
        x.code(2, 'k', 6);
        CHECK.due("a colour that is there again", x.colourAt(LAST, 7, 0), 6);
        CHECK.due("back ahead of it", x.colourAt(1, 7, 0), -1);
        x.code(1, 't', 4);
        CHECK.due("the colour of the beginning", x.colourAt(1, 7, 0), 0);
    }

    private static void changedBehindAJump() {
        SubtitleHarbour x = inARow("d t1 t2 t3 t4");
        CHECK.due("shown", x.cellAt(3, 7, 0), 1);
        CHECK.due("anew", x.cellAnew(3, 7, 0), 1);
        x.code(1, 't', 9);
        CHECK.due("in place of one", x.cellAt(3, 7, 0), 9);
        CHECK.due("in place of one, anew", x.cellAnew(3, 7, 0), 9);
        x.dropCode(1);
        CHECK.due("one is gone, at the next frame", x.cellAt(4, 7, 0), 2);
        CHECK.due("one is gone, at the next frame, anew", x.cellAnew(4, 7, 0), 2);
        x.code(1, 'm', 0);
        CHECK.due("one is added ahead", x.cellAt(4, 0, 0), 2);
        CHECK.due("one is added ahead, anew", x.cellAnew(4, 0, 0), 2);
        CHECK.due("nothing where it was", x.shown(4), 3);
        CHECK.due("sound", x.isSound(), true);
        x.code(2, 't', 8);
        CHECK.due("sound behind a change", x.isSound(), true);
        CHECK.due("nothing at 0, anew", x.cellAnew(0, 7, 0), -1);
        x.code(0, 'p', 0);
        CHECK.due("sound behind a change at 0", x.isSound(), true);
    }

    private static void sentTwice() {
        CHECK.says("A code that is no text, with the same kind and value as the code of the frame directly ahead,"
                + " has no effect, if that one had one");
        CHECK.due("text is sent twice", inARow("d t1 t1").cursorAt(LAST), 142);
        CHECK.due("text is sent four times", inARow("d t1 t1 t1 t1").cursorAt(LAST), 144);
        CHECK.due("a step back", inARow("d t1 t1 t1 b b").cursorAt(LAST), 142);
        CHECK.due("an exchange", inARow("d t1 e e").shown(LAST), 0);
        CHECK.due("new lines", inARow("r4 t1 c c").cellAt(LAST, 6, 0), 1);
        CHECK.due("not directly ahead", inARow("d t1 t1 t1 b - b").cursorAt(LAST), 141);
        CHECK.due("a text between", inARow("d t1 t1 t1 b t1 b").cursorAt(LAST), 142);
        CHECK.due("another kind", inARow("r4 t1 t2 c b").cellAt(LAST, 6, 1), 2);
        // in mode 'r' the second move would empty the row that was written, if the row were another one
        CHECK.due("the same value", inARow("r2 m20 m20 t1").cursorAt(LAST), 21);
        CHECK.due("another value", inARow("r2 m20 m21 t1").cursorAt(LAST), 22);
        CHECK.due("twice, with text of another value behind", inARow("d t1 t1 t1 b b t5").cellAt(LAST, 7, 1), 1);
        CHECK.due("the first code of all", inARow("d").modeAt(0), 'd');
        SubtitleHarbour x = new SubtitleHarbour();
        x.code(0, 'd', 0);
        x.code(1, 't', 1);
        x.code(LAST - 1, 'e', 0);
        x.code(LAST, 'e', 0);
        CHECK.due("at the last frames", x.shown(LAST), 0);
        x.dropCode(LAST - 1);
        CHECK.due("the one directly ahead is gone", x.shown(LAST), 0);
        x.code(LAST - 2, 'e', 0);
        CHECK.due("two frames apart", x.shown(LAST), 1);
    }

    private static void sentThreeTimes() {
        CHECK.says("if that one had one, that is, was no such one itself");
        int[] cursors = {146, 145, 145, 144, 144, 143, 143};
        StringBuilder codes = new StringBuilder("d t1 t1 t1 t1 t1 t1");
        for (int times = 0; times < cursors.length; times++) {
            CHECK.due("back " + times + " times", inARow(codes.toString()).cursorAt(LAST), cursors[times]);
            codes.append(" b");
        }
        CHECK.due("an effect is had also where nothing changes", inARow("b b - d t1 t1 b b").cursorAt(LAST), 141);
        CHECK.due("a step back without a mode counts", inARow("t1 b b b").cursorAt(LAST), 140);
        CHECK.due("one behind another value", inARow("d k1 k2 k2 k2 t1").colourAt(LAST, 7, 0), 2);
        SubtitleHarbour x = inARow("d t1 t1 t1 b b b");
        CHECK.due("three", x.cursorAt(LAST), 141);
        x.code(3, 'b', 0);
        CHECK.due("a fourth one ahead makes others those without effect", x.cursorAt(LAST), 140);
        x.dropCode(3);
        x.dropCode(4);
        CHECK.due("the second one is the first now", x.cursorAt(LAST), 141);
        SubtitleHarbour y = inARow("d t1 t1 t1 b b");
        y.dropCode(1);
        CHECK.due("a code less ahead of both", y.cursorAt(LAST), 141);
        y.dropCode(4);
        CHECK.due("the second one alone", y.cursorAt(LAST), 141);
        y.code(4, 'k', 1);
        CHECK.due("another kind in place of the first one", y.cursorAt(LAST), 141);
        y.code(5, 'k', 1);
        CHECK.due("twice the other kind", y.cursorAt(LAST), 142);
    }

    private static void valuesOfKindsWithout() {
        CHECK.says("the value of a kind without one does not count");
        CHECK.due("b", inARow("d t1 t1 t1 b1 b2").cursorAt(LAST), 142);
        CHECK.due("e", inARow("d t1 e7 e8").shown(LAST), 0);
        CHECK.due("c", inARow("r4 t1 c3 c4").cellAt(LAST, 6, 0), 1);
        CHECK.says("the value; any number for kinds without one");
        for (char kind : "dpecxnb".toCharArray()) {
            for (int value : new int[] {Integer.MIN_VALUE, -1, 0, 160, Integer.MAX_VALUE}) {
                CHECK.due(kind + " with " + value, new SubtitleHarbour().code(3, kind, value), false);
            }
        }
        CHECK.says("with the same kind and value");
        CHECK.due("m", inARow("d m20 m21").cursorAt(LAST), 21);
        CHECK.due("k", inARow("d k1 k2 t1").colourAt(LAST, 7, 0), 2);
        CHECK.due("r", inARow("r2 r3 t1 - c - c").cellAt(LAST, 5, 0), 1);
    }

    private static void atFirst() {
        CHECK.says("There are a shown memory and a hidden one, each with the rows 0 to 7 and the columns 0 to 19,"
                + " whose cells have a letter and a colour, or nothing, as at first");
        SubtitleHarbour x = new SubtitleHarbour();
        for (int row = 0; row < 8; row++) {
            for (int column = 0; column < 20; column++) {
                CHECK.due("letter", x.cellAt(0, row, column), -1);
                CHECK.due("letter anew", x.cellAnew(LAST, row, column), -1);
                CHECK.due("colour", x.colourAt(LAST, row, column), -1);
            }
        }
        CHECK.due("the hidden one", inARow("e").shown(LAST), 0);
        CHECK.says("a mode, 'o' none at first");
        CHECK.due("mode", x.modeAt(0), 'o');
        CHECK.says("a cursor with a row and a column, 7 and 0 at first");
        CHECK.due("cursor", x.cursorAt(0), 140);
        due("d t1", "///////a");
        CHECK.says("a number of rows to roll, and a colour, 0 at first");
        CHECK.due("colour", apart("d t1").colourAt(LAST, 7, 0), 0);
    }

    private static void cells() {
        CHECK.says("each with the rows 0 to 7 and the columns 0 to 19");
        int[] corners = {0, 19, 20, 139, 140, 159};
        for (int corner : corners) {
            SubtitleHarbour x = apart("d m" + corner + " k6 t26");
            CHECK.due("letter " + corner, x.cellAt(LAST, corner / 20, corner % 20), 26);
            CHECK.due("letter anew " + corner, x.cellAnew(LAST, corner / 20, corner % 20), 26);
            CHECK.due("colour " + corner, x.colourAt(LAST, corner / 20, corner % 20), 6);
            CHECK.due("no other one", x.shown(LAST), 1);
        }
        SubtitleHarbour full = new SubtitleHarbour();
        full.code(0, 'd', 0);
        int frame = 1;
        for (int row = 0; row < 8; row++) {
            full.code(frame++, 'm', 20 * row);
            for (int column = 0; column < 20; column++) {
                full.code(frame++, 't', 0);
            }
        }
        CHECK.says("Returns how many cells are shown at a frame that have a letter, blanks too.");
        CHECK.due("all cells have blanks", full.shown(LAST), 160);
        CHECK.due("none yet", full.shown(1), 0);
        CHECK.due("one of them", full.shown(2), 1);
        CHECK.due("all but one", full.shown(frame - 2), 159);
    }

    private static void text() {
        CHECK.says("'t' text, a letter from 0 to 26");
        due("d t0 t26 t1", "///////_za");
        CHECK.says("in mode 'p' in the hidden memory, in 'r' and 'd' in the shown one");
        due("p t1", "///////");
        due("p t1 e", "///////a");
        due("r2 t1", "///////a");
        due("d t1", "///////a");
        CHECK.says("the letter gets into the cell with the colour");
        CHECK.due("over another one", apart("d k1 t1 k2 m140 t2").colourAt(LAST, 7, 0), 2);
        due("d t1 m140 t2", "///////b");
        CHECK.says("in mode 'o', nothing.");
        due("t1 t2", "///////");
        dueCursor("t1 t2", 140);
        due("t1 d t2", "///////b");
        due("t1 e", "///////");
    }

    private static void textAtTheEdge() {
        CHECK.says("the column becomes 1 greater, but stays at 19");
        dueCursor("d m17 t1", 18);
        dueCursor("d m18 t1", 19);
        dueCursor("d m19 t1", 19);
        dueCursor("d m159 t1", 159);
        due("d m18 t1 t2 t3", "..................ac///////");
        due("d m18 t1 t2 m20", "..................ab///////");
        dueCursor("p m19 t1 t1", 19);
        dueCursor("r2 m159 t1 t1", 159);
    }

    private static void rollingBegins() {
        CHECK.says("'r' rolling, with 2 to 4 rows: if the mode is another one, it becomes 'r', both memories are"
                + " empty then, and the cursor is at row 7 and column 0");
        for (String mode : new String[] {"", "d ", "p ", "e "}) {
            CHECK.due("mode behind " + mode, apart(mode + "r2").modeAt(LAST), 'r');
            dueCursor(mode + "m33 r2", 140);
        }
        due("d t1 r3", "///////");
        due("d t1 p r3 e", "///////");
        due("p t1 r3 e", "///////");
        due("d t1 e t2 r2 e", "///////");
        CHECK.due("the colour stays", apart("k4 r2 t1").colourAt(LAST, 7, 0), 4);
        due("r2 t1 d r2", "///////");
    }

    private static void rollingAgain() {
        CHECK.says("the number of rows is the told one");
        due("r2 t1 r2", "///////a");
        dueCursor("r2 m145 r3", 145);
        due("r2 p t1 r2 e", "///////");
        due("r2 t1 c t2 c t3 c t4", "//////c/d");
        due("r3 t1 c t2 c t3 c t4", "/////b/c/d");
        due("r4 t1 c t2 c t3 c t4", "////a/b/c/d");
        due("r4 t1 c t2 c t3 c t4 c t5", "////b/c/d/e");
        due("r4 t1 c t2 c t3 r2 c t4", "//////c/d");
        due("r2 t1 c t2 r4 c t3 c t4", "////a/b/c/d");
        due("r2 t1 c t2 d r4 c t3", "///////c");
    }

    private static void modes() {
        CHECK.says("'d' and 'p': the mode becomes this.");
        for (String ahead : new String[] {"", "r2 ", "d ", "p ", "e "}) {
            CHECK.due("d behind " + ahead, apart(ahead + "d").modeAt(LAST), 'd');
            CHECK.due("p behind " + ahead, apart(ahead + "p").modeAt(LAST), 'p');
        }
        due("r2 t1 d", "///////a");
        due("r2 t1 p", "///////a");
        dueCursor("r2 t1 d", 141);
        dueCursor("m33 p", 33);
    }

    private static void exchange() {
        CHECK.says("'e': the memories are exchanged, and the mode becomes 'p'.");
        for (String ahead : new String[] {"", "r2 ", "d ", "p "}) {
            CHECK.due("e behind " + ahead, apart(ahead + "e").modeAt(LAST), 'p');
        }
        due("d t1 e", "///////");
        due("d t1 e e", "///////a");
        due("d t1 e t2", "///////");
        due("d t1 e t2 e", "///////ab");
        dueCursor("d t1 e", 141);
        CHECK.due("colours go with them", apart("p k3 t1 e").colourAt(LAST, 7, 0), 3);
    }

    private static void newLineAlone() {
        CHECK.says("'c' a new line, in mode 'r' alone");
        due("d t1 c", "///////a");
        dueCursor("d t1 c", 141);
        due("p t1 c e", "///////a");
        dueCursor("p t1 c", 141);
        dueCursor("m145 c", 145);
        CHECK.says("the cursor's row is empty then, and its column 0");
        due("r2 t1 c", "//////a/");
        dueCursor("r2 t1 c", 140);
        dueCursor("r2 m85 c", 80);
        CHECK.due("its colour, too", apart("r2 k1 t1 c").colourAt(LAST, 7, 0), -1);
        CHECK.due("the colour goes up", apart("r2 k1 t1 c").colourAt(LAST, 6, 0), 1);
    }

    private static void newLineAtTheTop() {
        CHECK.says("of the rows to roll, which are those from the cursor's row upward as far as they are there,"
                + " each gets what the next lower one has");
        due("r4 m40 t1 c t2 c t3", "a/b/c/////");
        due("r4 m40 t1 c t2 c t3 c t4", "b/c/d/////");
        due("r4 m60 t1 c t2 c t3 c t4", "a/b/c/d////");
        due("r4 m20 t1 c t2 c t3", "b/c//////");
        due("r4 m0 t1 c", "///////");
        due("r4 m0 t1 c t2", "b///////");
        due("r2 m20 t1 c", "a///////");
        due("r2 m40 t1 c t2 c", "/b//////");
    }

    private static void newLineClearsAbove() {
        CHECK.says("what is in rows above these is empty, too");
        due("r4 t1 c t2 c t3 c t4 r2 c", "//////d/");
        due("r4 t1 c t2 c t3 c t4 r3 c", "/////c/d/");
        due("r4 t1 c t2 c t3 c t4 r4 c", "////b/c/d/");
        due("r4 m60 t1 c t2 c t3 c t4", "a/b/c/d////");
        due("r4 m60 t1 c t2 c t3 c t4 r2 c", "//d/////");
        due("r4 m60 t1 c t2 c t3 c t4 r3 c", "/c/d/////");
        due("r4 m20 t1 c t2 r2 c", "b///////");
        CHECK.says("from the cursor's row upward");
        // below the cursor's row nothing can be: going there from another row, or from another mode, empties all
        due("r3 m100 t1 c t2", "////a/b//");
    }

    private static void emptying() {
        CHECK.says("'x' the shown memory is empty then, 'n' the hidden one.");
        due("d t1 x", "///////");
        due("d t1 e x e", "///////a");
        due("d t1 n", "///////a");
        due("p t1 n e", "///////");
        due("p t1 x e", "///////a");
        due("x n", "///////");
        dueCursor("d t1 x", 141);
        dueCursor("p t1 n", 141);
        CHECK.due("colours are gone", apart("d k2 t1 x").colourAt(LAST, 7, 0), -1);
        CHECK.due("the mode stays", apart("r2 x").modeAt(LAST), 'r');
    }

    private static void stepsBack() {
        CHECK.says("'b' in the modes other than 'o', if the column is greater than 0: it becomes 1 less, and that"
                + " cell of the memory where text goes is empty.");
        due("d t1 t2 b", "///////a");
        due("r2 t1 t2 b", "///////a");
        due("p t1 t2 b e", "///////a");
        due("d t1 t2 p b", "///////ab");
        dueCursor("d t1 t2 p b", 141);
        dueCursor("m145 b", 145);
        dueCursor("d m145 b", 144);
        dueCursor("d m141 b", 140);
        dueCursor("d m140 b", 140);
        dueCursor("d m20 b", 20);
        due("d t1 m140 b", "///////a");
        CHECK.due("the colour is gone, too", apart("d k3 t1 b").colourAt(LAST, 7, 0), -1);
        due("d m19 t1 m20 b", "...................a///////");
        due("d m18 t1 t2 b", "...................b///////");
        due("d m18 t1 t2 b b t3", ".................c.b///////");
    }

    private static void moves() {
        CHECK.says("'m' with 0 to 159: the cursor goes to the row value / 20 and the column value % 20");
        for (int value : new int[] {0, 19, 20, 139, 140, 159}) {
            for (String mode : new String[] {"", "r2 ", "d ", "p "}) {
                dueCursor(mode + "m" + value, value);
            }
        }
        CHECK.says("in mode 'r', if the row is another one, the shown memory is empty then");
        due("r2 t1 m139 t2", "//////...................b/");
        due("r2 t1 m140 t2", "///////b");
        due("r2 t1 m159 t2", "///////a..................b");
        due("d t1 m0 t2", "b///////a");
        due("d t1 p m0 t2", "///////a");
        due("p t1 m0 t2 e", "b///////a");
        due("r2 t1 m0 m140", "///////");
    }

    private static void colours() {
        CHECK.says("'k' with 0 to 7: the colour.");
        CHECK.due("0", apart("d k3 k0 t1").colourAt(LAST, 7, 0), 0);
        CHECK.due("7", apart("d k7 t1").colourAt(LAST, 7, 0), 7);
        CHECK.due("without a mode", apart("k5 d t1").colourAt(LAST, 7, 0), 5);
        CHECK.due("it stays", apart("k5 d t1 p t1 e").colourAt(LAST, 7, 1), 5);
        CHECK.due("what is written keeps its own", apart("d k1 t1 k2").colourAt(LAST, 7, 0), 1);
    }

    private static void wrongCodes() {
        SubtitleHarbour x = new SubtitleHarbour();
        CHECK.says("Throws IllegalArgumentException if there is no such frame or kind, or the value is out of range");
        for (int kind = 0; kind < 65536; kind += kind < 400 ? 1 : 251) {
            char k = (char) kind;
            if ("trdpecxnbmk".indexOf(k) < 0) {
                CHECK.badArgument("kind " + kind, () -> put(x, 5, k, 3));
            }
        }
        ranges('t', 0, 26);
        ranges('r', 2, 4);
        ranges('m', 0, 159);
        ranges('k', 0, 7);
        CHECK.due("none of them is there", x.dropCode(5), false);
    }

    private static void ranges(char kind, int least, int most) {
        for (int value : new int[] {least - 1, most + 1, Integer.MIN_VALUE, Integer.MAX_VALUE}) {
            CHECK.badArgument(kind + " with " + value, () -> put(new SubtitleHarbour(), 5, kind, value));
        }
        for (int value = least; value <= most; value++) {
            CHECK.due(kind + " with " + value, new SubtitleHarbour().code(5, kind, value), false);
        }
    }

    private static void dropped() {
        CHECK.says("Returns true if one was there.");
        SubtitleHarbour x = inARow("d t1 t2");
        CHECK.due("a frame behind", x.dropCode(3), false);
        CHECK.due("the last one", x.dropCode(2), true);
        CHECK.due("the first one", x.dropCode(0), true);
        CHECK.due("the one between", x.dropCode(1), true);
        CHECK.due("none is left", x.dropCode(1), false);
        CHECK.due("at the last frame", x.dropCode(LAST), false);
        x.code(LAST, 'd', 0);
        CHECK.due("at the last frame", x.dropCode(LAST), true);
        CHECK.due("nothing is left", x.modeAt(LAST), 'o');
    }

    private static void wrongCells() {
        CHECK.says("Throws IllegalArgumentException if there is no such frame, row or column");
        SubtitleHarbour x = apart("d t1 m0 t1 m19 t1 m159 t1");
        int[][] wrong = {{-1, 0}, {8, 0}, {0, -1}, {0, 20}, {7, 20}, {8, -20}, {-1, 20}, {1, -20}, {Integer.MAX_VALUE, 0},
            {0, Integer.MAX_VALUE}, {Integer.MIN_VALUE, 0}, {0, Integer.MIN_VALUE}};
        for (int[] w : wrong) {
            CHECK.badArgument("cellAt", () -> x.cellAt(LAST, w[0], w[1]));
            CHECK.badArgument("cellAnew", () -> x.cellAnew(LAST, w[0], w[1]));
            CHECK.badArgument("colourAt", () -> x.colourAt(LAST, w[0], w[1]));
        }
    }
}
