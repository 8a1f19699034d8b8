import java.io.IOException;
import java.lang.reflect.Constructor;
import java.lang.reflect.Field;
import java.lang.reflect.Method;
import java.lang.reflect.Modifier;
import java.nio.file.Files;
import java.nio.file.Path;
import java.util.TreeSet;
import java.util.regex.Matcher;
import java.util.regex.Pattern;

/** The face of the document, and those rules of ../shared/LANGUAGE.md that a text can be searched for. */
public final class LanguageTest {
    private static final Path PROGRAM = Path.of("src/main/java/IndicatorDiagram.java");

    private static final String[] FACE = {
        "int setClearance(int)", "int setPistonArea(int,int)", "int setStroke(int)", "int setBoilerPressure(int)",
        "int setBackPressure(int)", "int setFinding(int,int)", "int setValves(int,int,int,int,int)",
        "int valve(int,int)", "int beginCard(int,int)", "int setPoint(int,int,int)", "int finishCard()",
        "int addIdealCard(int,int,int,int)", "int removeCard(int)", "int cardCount()", "int end(int)",
        "int speed(int)", "int pressure(int,int,int)", "int area(int)", "int forwardArea(int)",
        "int loopArea(int)", "int loopStations(int)", "int meanPressure(int)", "long power(int)",
        "int event(int,int)", "int lateness(int,int)", "int slip(int)", "int constant(int,int)",
        "int leakage(int)", "int cardsOf(int)", "int meanArea(int)", "long meanPower(int)", "int imbalance()",
        "int removeOutliers(int,int)", "int idealArea(int)", "int bestCutOff(int,int)", "int balancingCutOff()",
        "int historySize()", "int undo()",
    };

    private static final String[] FORBIDDEN = {
        "\\b(throw|throws|try|catch|finally|synchronized|assert|import|package|instanceof|native|volatile)\\b",
        "->", "::", "\\b(Object|System\\.(?!arraycopy)|Thread|Runtime|Exception|Error)\\b",
        "\\b\\w*Exact\\b", "\\.(equals|hashCode|toString)\\(", "@",
    };

    private static final int LONGEST_METHOD = 60;

    private static int wrong = 0;

    public static void main(String[] args) throws IOException {
        String code = withoutComments(Files.readString(PROGRAM));
        for (String forbidden : FORBIDDEN) {
            Matcher found = Pattern.compile(forbidden).matcher(code);
            if (found.find()) {
                say("the program has " + found.group());
            }
        }
        face();
        membersOfTheFace();
        for (Class<?> inside : IndicatorDiagram.class.getDeclaredClasses()) {
            inside(inside);
        }
        methodLengths(code);
        System.out.println(wrong == 0 ? "the program keeps to what was looked for" : wrong + " rules broken");
        if (wrong != 0) {
            System.exit(1);
        }
    }

    private static void say(String what) {
        wrong++;
        System.out.println(what);
    }

    private static String withoutComments(String source) {
        return source.replaceAll("(?s)/\\*.*?\\*/", "").replaceAll("//[^\n]*", "");
    }

    private static void face() {
        TreeSet<String> seen = new TreeSet<>();
        TreeSet<String> names = new TreeSet<>();
        for (Method method : IndicatorDiagram.class.getDeclaredMethods()) {
            if (Modifier.isPublic(method.getModifiers())) {
                seen.add(method.toString().replace("public ", "").replace("IndicatorDiagram.", ""));
                names.add(method.getName());
            }
        }
        TreeSet<String> due = new TreeSet<>(java.util.List.of(FACE));
        if (!seen.equals(due)) {
            say("the public methods are " + seen + ", due are " + due);
        }
        for (Method method : IndicatorDiagram.class.getDeclaredMethods()) {
            if (Modifier.isPrivate(method.getModifiers()) && names.contains(method.getName())) {
                say("a private method has the public name " + method.getName());
            }
        }
        if (!Modifier.isFinal(IndicatorDiagram.class.getModifiers())) {
            say("the class isn't final");
        }
    }

    private static void membersOfTheFace() {
        TreeSet<String> constants = new TreeSet<>();
        for (Field field : IndicatorDiagram.class.getDeclaredFields()) {
            if (Modifier.isPublic(field.getModifiers())) {
                constants.add(field.toString());
            } else if (!Modifier.isPrivate(field.getModifiers())) {
                say("neither public nor private: " + field);
            }
            boolean isStatic = Modifier.isStatic(field.getModifiers());
            if (isStatic && !(Modifier.isFinal(field.getModifiers()) && field.getType() == int.class)) {
                say("no constant of int: " + field);
            }
        }
        if (constants.size() != 4) {
            say("the public constants are " + constants);
        }
        for (Method method : IndicatorDiagram.class.getDeclaredMethods()) {
            if (!Modifier.isPublic(method.getModifiers()) && !Modifier.isPrivate(method.getModifiers())) {
                say("neither public nor private: " + method);
            }
        }
        Constructor<?>[] constructors = IndicatorDiagram.class.getDeclaredConstructors();
        if (constructors.length != 1 || !Modifier.isPublic(constructors[0].getModifiers())
                || constructors[0].getParameterCount() != 0) {
            say("the constructors are " + java.util.Arrays.toString(constructors));
        }
    }

    private static void inside(Class<?> inside) {
        int modifiers = inside.getModifiers();
        if (!Modifier.isStatic(modifiers) || Modifier.isPublic(modifiers) || Modifier.isProtected(modifiers)) {
            say("not a private or package-visible static class: " + inside);
        }
        if (inside.getDeclaredFields().length > 20) {
            say("more than 20 fields: " + inside);
        }
        for (Field field : inside.getDeclaredFields()) {
            if (Modifier.isStatic(field.getModifiers())) {
                say("a static field: " + field);
            }
        }
    }

    private static void methodLengths(String code) {
        int length = 0;
        for (String line : code.split("\n")) {
            boolean isEnd = line.equals("    }") || line.equals("        }");
            boolean isStart = line.matches(" {4,8}(public |private )?(static )?[\\w\\[\\]]+ ?\\w*\\(.*\\) \\{");
            length = isStart ? 0 : length + 1;
            if (isEnd && length > LONGEST_METHOD) {
                say("a longer method ends at: " + line);
            }
            length = isEnd ? 0 : length;
        }
    }
}
