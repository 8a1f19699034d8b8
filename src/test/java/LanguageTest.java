import java.io.IOException;
import java.lang.reflect.Field;
import java.lang.reflect.Method;
import java.lang.reflect.Modifier;
import java.nio.file.Files;
import java.nio.file.Path;
import java.util.TreeSet;
import java.util.regex.Matcher;
import java.util.regex.Pattern;

/** Those rules of ../shared/LANGUAGE.md that a text can be searched for; the face itself is FaceTest's. */
public final class LanguageTest {
    private static final Path PROGRAM = Path.of("src/main/java/IndicatorDiagram.java");

    private static final String[] FORBIDDEN = {
        "\\b(throw|throws|try|catch|finally|synchronized|assert|import|package|instanceof|native|volatile)\\b",
        "->", "::", "\\b(Object|System\\.(?!arraycopy)|Thread|Runtime|Exception|Error)\\b",
        "\\b\\w*Exact\\b", "\\.(equals|hashCode|toString)\\(", "@",
    };

    private static final int LONGEST_METHOD = 60;

    private static int wrong = 0;

    public static void main(String[] args) throws IOException {
        String code = withoutComments(Files.readString(PROGRAM));
        for (String forbidden : FORBIDDEN) {
            Matcher found = Pattern.compile(forbidden).matcher(code);
            if (found.find()) {
                say("the program has " + found.group());
            }
        }
        privateNames();
        otherMembers();
        for (Class<?> inside : IndicatorDiagram.class.getDeclaredClasses()) {
            inside(inside);
        }
        methodLengths(code);
        System.out.println(wrong == 0 ? "the program keeps to what was looked for" : wrong + " rules broken");
        if (wrong != 0) {
            System.exit(1);
        }
    }

    private static void say(String what) {
        wrong++;
        System.out.println(what);
    }

    private static String withoutComments(String source) {
        return source.replaceAll("(?s)/\\*.*?\\*/", "").replaceAll("//[^\n]*", "");
    }

    private static void privateNames() {
        TreeSet<String> names = new TreeSet<>();
        for (Method method : IndicatorDiagram.class.getDeclaredMethods()) {
            if (Modifier.isPublic(method.getModifiers())) {
                names.add(method.getName());
            }
        }
        for (Method method : IndicatorDiagram.class.getDeclaredMethods()) {
            if (Modifier.isPrivate(method.getModifiers()) && names.contains(method.getName())) {
                say("a private method has the public name " + method.getName());
            }
        }
    }

    private static void otherMembers() {
        for (Field field : IndicatorDiagram.class.getDeclaredFields()) {
            if (!Modifier.isPublic(field.getModifiers()) && !Modifier.isPrivate(field.getModifiers())) {
                say("neither public nor private: " + field);
            }
            boolean isStatic = Modifier.isStatic(field.getModifiers());
            if (isStatic && !(Modifier.isFinal(field.getModifiers()) && field.getType() == int.class)) {
                say("no constant of int: " + field);
            }
        }
        for (Method method : IndicatorDiagram.class.getDeclaredMethods()) {
            if (!Modifier.isPublic(method.getModifiers()) && !Modifier.isPrivate(method.getModifiers())) {
                say("neither public nor private: " + method);
            }
        }
    }

    private static void inside(Class<?> inside) {
        int modifiers = inside.getModifiers();
        if (!Modifier.isStatic(modifiers) || Modifier.isPublic(modifiers) || Modifier.isProtected(modifiers)) {
            say("not a private or package-visible static class: " + inside);
        }
        if (inside.getDeclaredFields().length > 20) {
            say("more than 20 fields: " + inside);
        }
        for (Field field : inside.getDeclaredFields()) {
            if (Modifier.isStatic(field.getModifiers())) {
                say("a static field: " + field);
            }
        }
    }

    private static void methodLengths(String code) {
        int length = 0;
        for (String line : code.split("\n")) {
            boolean isEnd = line.equals("    }") || line.equals("        }");
            boolean isStart = line.matches(" {4,8}(public |private )?(static )?[\\w\\[\\]]+ ?\\w*\\(.*\\) \\{");
            length = isStart ? 0 : length + 1;
            if (isEnd && length > LONGEST_METHOD) {
                say("a longer method ends at: " + line);
            }
            length = isEnd ? 0 : length;
        }
    }
}
