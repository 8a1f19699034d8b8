import java.io.IOException;
import java.lang.reflect.Constructor;
import java.lang.reflect.Field;
import java.lang.reflect.Method;
import java.lang.reflect.Modifier;
import java.nio.file.Files;
import java.nio.file.Path;
import java.util.TreeSet;
import java.util.regex.Matcher;
import java.util.regex.Pattern;

/** 'The public face': the class has just what the document lists there, and README.md tells of each of it. */
public final class FaceTest {
    private static final Path DOCUMENT = Path.of("../shared/DOC.md");
    private static final Path README = Path.of("README.md");

    private static final Due due = new Due();

    public static void main(String[] args) throws ReflectiveOperationException, IOException {
        String face = faceOfTheDocument();
        theClass(face);
        theReadme(face);
        due.end();
    }

    /** The class as the document writes it: the part between the marks of its first piece of Java. */
    private static String faceOfTheDocument() throws IOException {
        Matcher piece = Pattern.compile("(?s)## The public face\\s+```java\n(.*?)```").matcher(Files.readString(DOCUMENT));
        if (!piece.find()) {
            due.are("the document's face", "not found", "found");
            return "";
        }
        return piece.group(1);
    }

    private static TreeSet<String> listed(String face) {
        TreeSet<String> members = new TreeSet<>();
        for (String line : face.split("\n")) {
            if (line.endsWith(";")) {
                members.add(line.strip());
            }
        }
        return members;
    }

    private static void theClass(String face) throws ReflectiveOperationException {
        Class<?> program = IndicatorDiagram.class;
        TreeSet<String> members = new TreeSet<>();
        for (Field field : program.getDeclaredFields()) {
            if (Modifier.isPublic(field.getModifiers())) {
                members.add(Modifier.toString(field.getModifiers()) + " " + field.getType().getSimpleName() + " "
                        + field.getName() + " = " + field.getInt(null) + ";");
            }
        }
        for (Constructor<?> constructor : program.getDeclaredConstructors()) {
            members.add(Modifier.toString(constructor.getModifiers()) + " " + program.getSimpleName() + "("
                    + types(constructor.getParameterTypes()) + ");");
        }
        for (Method method : program.getDeclaredMethods()) {
            if (Modifier.isPublic(method.getModifiers())) {
                members.add(Modifier.toString(method.getModifiers()) + " " + method.getReturnType().getSimpleName()
                        + " " + method.getName() + "(" + types(method.getParameterTypes()) + ");");
            }
        }
        TreeSet<String> want = new TreeSet<>();
        for (String member : listed(face)) {
            want.add(withoutNames(member));
        }
        for (String member : want) {
            due.are(member, members.contains(member) ? "is there" : "is not there", "is there");
        }
        members.removeAll(want);
        due.are("what the document doesn't list", members.toString(), "[]");
        due.are("the class", Modifier.toString(program.getModifiers()), "public final");
    }

    private static String types(Class<?>[] parameters) {
        StringBuilder types = new StringBuilder();
        for (Class<?> parameter : parameters) {
            types.append(types.length() == 0 ? "" : ", ").append(parameter.getSimpleName());
        }
        return types.toString();
    }

    /** The class file keeps no names of parameters. */
    private static String withoutNames(String member) {
        int open = member.indexOf('(');
        return open < 0 ? member : member.substring(0, open) + member.substring(open).replaceAll("(\\w+) \\w+", "$1");
    }

    private static void theReadme(String face) throws IOException {
        String readme = Files.readString(README);
        for (String member : listed(face)) {
            String told = member.replaceAll("^public (static final )?|;$", "");
            if (told.contains(" = ")) {
                told = told.replace("int ", "").replace(" = ", "` | `");
            }
            due.are("README.md of " + told, readme.contains("`" + told + "`") ? "tells" : "tells nothing", "tells");
        }
    }
}
