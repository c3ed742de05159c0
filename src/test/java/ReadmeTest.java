import java.io.IOException;
import java.nio.file.Files;
import java.nio.file.Path;
import java.util.ArrayList;
import java.util.List;

/** The examples of README.md answer as it says, and are those that are run here. Runs in the project's directory. */
public final class ReadmeTest {
    private static final Check CHECK = new Check("ReadmeTest");
    private static final List<String> DONE = new ArrayList<>();
    private static final SubtitleHarbour player = new SubtitleHarbour();

    public static void main(String[] args) throws IOException {
        DONE.add("SubtitleHarbour player = new SubtitleHarbour();");
        stamps();
        codes();
        cues();
        changes();
        hearing();
        CHECK.dueText("the examples", String.join("\n", examples()), String.join("\n", DONE));
        CHECK.end();
    }

    /** The lines of Java on the page, with what each one is said to answer, and without the words behind that. */
    private static List<String> examples() throws IOException {
        List<String> lines = new ArrayList<>();
        boolean isJava = false;
        for (String line : Files.readAllLines(Path.of("README.md"))) {
            if (line.startsWith("```")) {
                isJava = line.equals("```java");
            } else if (isJava && line.startsWith("player.")) {
                lines.add(line.replaceAll(" +// ", " // ").replaceAll("(// [^ ,:;]+).*", "$1"));
            } else if (isJava) {
                lines.add(line.replaceAll(" +//.*", ""));
            }
        }
        return lines;
    }

    private static void due(String call, String answer, Object got) {
        DONE.add("player." + call + "; // " + answer);
        String text = got instanceof Character ? "'" + got + "'" : got instanceof Float ? got + "f" : "" + got;
        CHECK.dueText(call, text, answer);
    }

    private static void dueCue(String call, int got, int want) {
        DONE.add("int " + call + ";");
        CHECK.due(call, got, want);
    }

    private static void stamps() {
        due("frameOf(0, 1, 0, 2, true)", "1800", player.frameOf(0, 1, 0, 2, true));
        due("stampOf(1800, 3, true)", "2", player.stampOf(1800, 3, true));
    }

    private static void codes() {
        due("code(0, 'd', 0)", "false", player.code(0, 'd', 0));
        due("code(2, 'k', 3)", "false", player.code(2, 'k', 3));
        due("code(4, 't', 5)", "false", player.code(4, 't', 5));
        due("cellAt(4, 7, 0)", "5", player.cellAt(4, 7, 0));
        due("cellAnew(4, 7, 0)", "5", player.cellAnew(4, 7, 0));
        due("colourAt(4, 7, 0)", "3", player.colourAt(4, 7, 0));
        due("cellAt(3, 7, 0)", "-1", player.cellAt(3, 7, 0));
        due("modeAt(4)", "'d'", player.modeAt(4));
        due("cursorAt(4)", "141", player.cursorAt(4));
        due("shown(4)", "1", player.shown(4));
        due("dropCode(4)", "true", player.dropCode(4));
    }

    private static void cues() {
        due("setRegion(1, 4, 4, 10)", "20", player.setRegion(1, 4, 4, 10));
        int first = player.addCue(100, 160, 1);
        dueCue("first = player.addCue(100, 160, 1)", first, 0);
        due("addWord(first, 8)", "1", player.addWord(first, 8));
        due("addWord(first, 3)", "2", player.addWord(first, 3));
        due("lines(first)", "2", player.lines(first));
        due("wordsIn(first, 0)", "1", player.wordsIn(first, 0));
        due("rowOf(first)", "6", player.rowOf(first));
        due("cueAt(120, 7)", "0", player.cueAt(120, 7));
        due("cueAnew(160, 7)", "-1", player.cueAnew(160, 7));
    }

    private static void changes() {
        int first = 0;
        due("addCut(97)", "1", player.addCut(97));
        due("snap(5)", "1", player.snap(5));
        due("startOf(first)", "97", player.startOf(first));
        due("stretch(90, 2)", "1", player.stretch(90, 2));
        due("endOf(first)", "187", player.endOf(first));
        int second = player.split(first, 1);
        dueCue("second = player.split(first, 1)", second, 1);
        due("startOf(second)", "159", player.startOf(second));
        due("merge(first, second)", "2", player.merge(first, second));
        due("convert(25, 30)", "1", player.convert(25, 30));
        due("addAnchor(80, 90)", "1", player.addAnchor(80, 90));
        due("addAnchor(180, 290)", "2", player.addAnchor(180, 290));
        due("drift()", "2", player.drift());
        due("startOf(first)", "90", player.startOf(first));
    }

    private static void hearing() {
        int first = 0;
        due("addHeard(95, 8)", "1", player.addHeard(95, 8));
        due("addHeard(130, 3)", "2", player.addHeard(130, 3));
        due("hear(first)", "0", player.hear(first));
        due("timeOf(first, 1)", "130", player.timeOf(first, 1));
        due("sung(first, 100)", "1", player.sung(first, 100));
        dueCue("other = player.addCue(92, 200, 2)", player.addCue(92, 200, 2), 2);
        due("pairOf(first)", "2", player.pairOf(first));
        due("pairCost()", "12", player.pairCost());
        due("readingTime(first)", "28600", player.readingTime(first));
        due("speed(first)", "2.6f", player.speed(first));
        due("meanLength()", "129.0", player.meanLength());
        due("isSound()", "true", player.isSound());
    }
}
