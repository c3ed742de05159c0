import java.lang.reflect.Constructor;
import java.lang.reflect.Field;
import java.lang.reflect.Method;
import java.lang.reflect.Modifier;
import java.util.Set;
import java.util.TreeSet;

/** The class has the document's face and no other member that can be seen from outside. */
public final class FaceTest {
    private static final String[] FACE = {
        "int frameOf(int,int,int,int,boolean) IllegalArgumentException",
        "int stampOf(int,int,boolean) IllegalArgumentException",
        "boolean code(int,char,int) IllegalArgumentException IllegalStateException",
        "boolean dropCode(int) IllegalArgumentException",
        "int cellAt(int,int,int) IllegalArgumentException",
        "int cellAnew(int,int,int) IllegalArgumentException",
        "int colourAt(int,int,int) IllegalArgumentException",
        "char modeAt(int) IllegalArgumentException",
        "int cursorAt(int) IllegalArgumentException",
        "int shown(int) IllegalArgumentException",
        "int setRegion(int,int,int,int) IllegalArgumentException",
        "int addCue(int,int,int) IllegalArgumentException IllegalStateException",
        "int addWord(int,int) NoSuchElementException IllegalArgumentException IllegalStateException",
        "int dropCue(int) NoSuchElementException",
        "int cues()",
        "int startOf(int) NoSuchElementException",
        "int endOf(int) NoSuchElementException",
        "int lines(int) NoSuchElementException",
        "int wordsIn(int,int) NoSuchElementException IndexOutOfBoundsException",
        "int rowOf(int) NoSuchElementException",
        "int cueAt(int,int) IllegalArgumentException",
        "int cueAnew(int,int) IllegalArgumentException",
        "int addCut(int) IllegalArgumentException IllegalStateException",
        "int snap(int) IllegalArgumentException",
        "int stretch(int,int) IllegalArgumentException",
        "int merge(int,int) NoSuchElementException IllegalArgumentException IllegalStateException",
        "int split(int,int) NoSuchElementException IllegalArgumentException UnsupportedOperationException"
            + " IllegalStateException",
        "int convert(int,int) IllegalArgumentException UnsupportedOperationException",
        "int addAnchor(int,int) IllegalArgumentException IllegalStateException",
        "int drift() IllegalStateException",
        "int addHeard(int,int) IllegalArgumentException IllegalStateException",
        "int hear(int) NoSuchElementException",
        "int timeOf(int,int) NoSuchElementException IndexOutOfBoundsException",
        "int sung(int,int) NoSuchElementException IllegalArgumentException",
        "int pairOf(int) NoSuchElementException UnsupportedOperationException",
        "int pairCost()",
        "long readingTime(int) NoSuchElementException",
        "float speed(int) NoSuchElementException",
        "double meanLength() ArithmeticException",
        "boolean isSound()",
    };

    public static void main(String[] args) {
        Check check = new Check("FaceTest");
        Set<String> want = new TreeSet<>();
        Set<String> names = new TreeSet<>();
        for (String line : FACE) {
            want.add(line);
            names.add(line.substring(line.indexOf(' ') + 1, line.indexOf('(')));
        }
        Set<String> got = new TreeSet<>();
        for (Method method : SubtitleHarbour.class.getDeclaredMethods()) {
            if (!Modifier.isPrivate(method.getModifiers())) {
                got.add(textOf(method));
            } else {
                check.due("private " + method.getName(), names.contains(method.getName()), false);
            }
        }
        check.dueText("the methods", got.toString(), want.toString());
        for (Field field : SubtitleHarbour.class.getDeclaredFields()) {
            check.due("field " + field.getName(), Modifier.isPrivate(field.getModifiers()), true);
        }
        Constructor<?>[] constructors = SubtitleHarbour.class.getDeclaredConstructors();
        check.due("constructors", constructors.length, 1);
        check.due("public constructor", Modifier.isPublic(constructors[0].getModifiers()), true);
        check.due("parameters", constructors[0].getParameterCount(), 0);
        check.due("final class", Modifier.isFinal(SubtitleHarbour.class.getModifiers()), true);
        check.end();
    }

    private static String textOf(Method method) {
        StringBuilder text = new StringBuilder(method.getReturnType().getSimpleName());
        text.append(' ').append(method.getName()).append('(');
        for (Class<?> type : method.getParameterTypes()) {
            text.append(type.getSimpleName()).append(',');
        }
        if (method.getParameterCount() > 0) {
            text.setLength(text.length() - 1);
        }
        text.append(')');
        for (Class<?> type : method.getExceptionTypes()) {
            text.append(' ').append(type.getSimpleName());
        }
        return text.toString();
    }
}
