import java.io.IOException;
import java.lang.reflect.Constructor;
import java.lang.reflect.Field;
import java.lang.reflect.Method;
import java.lang.reflect.Modifier;
import java.nio.file.Files;
import java.nio.file.Path;
import java.util.Set;
import java.util.TreeSet;
import java.util.regex.Matcher;
import java.util.regex.Pattern;

/** The class has the face that the document shows, no more, and the shape that LANGUAGE.md asks for. */
public final class FaceTest {
    private static final Path DOCUMENT = Path.of("../shared/DOC.md");
    private static final Pattern FACE_LINE = Pattern.compile("^    (public .*);$", Pattern.MULTILINE);
    private static final Class<OrderedVersions> MAIN = OrderedVersions.class;
    private static final Checks CHECKS = new Checks("FaceTest");

    public static void main(String[] args) throws IOException {
        CHECKS.due("face", face(), documentedFace());
        CHECKS.due("class is public and final", MAIN.getModifiers(), Modifier.PUBLIC | Modifier.FINAL);
        Set<String> names = new TreeSet<>();
        for (Method method : MAIN.getDeclaredMethods()) {
            boolean hidden = Modifier.isPrivate(method.getModifiers());
            CHECKS.due(method + " is public or private", hidden || Modifier.isPublic(method.getModifiers()), true);
            CHECKS.due(method + " shares no name", names.add(method.getName()), true);
        }
        checkFields(MAIN);
        for (Field field : MAIN.getDeclaredFields()) {
            CHECKS.due(field + " is private", Modifier.isPrivate(field.getModifiers()), true);
        }
        for (Class<?> inside : MAIN.getDeclaredClasses()) {
            CHECKS.due(inside + " is static", Modifier.isStatic(inside.getModifiers()), true);
            checkFields(inside);
        }
        CHECKS.end();
    }

    private static void checkFields(Class<?> owner) {
        CHECKS.due(owner + " has some twenty fields at most", owner.getDeclaredFields().length <= 20, true);
        for (Field field : owner.getDeclaredFields()) {
            int modifiers = field.getModifiers();
            CHECKS.due(field + " is no static state", !Modifier.isStatic(modifiers) || Modifier.isFinal(modifiers), true);
        }
    }

    private static Set<String> face() {
        Set<String> found = new TreeSet<>();
        for (Constructor<?> constructor : MAIN.getDeclaredConstructors()) {
            found.add(line("public OrderedVersions", constructor.getParameterTypes(), constructor.getExceptionTypes()));
        }
        for (Method method : MAIN.getMethods()) {
            if (method.getDeclaringClass() == MAIN) {
                String start = "public " + method.getReturnType() + " " + method.getName();
                found.add(line(start, method.getParameterTypes(), method.getExceptionTypes()));
            }
        }
        return found;
    }

    private static String line(String start, Class<?>[] parameters, Class<?>[] exceptions) {
        return start + "(" + joined(parameters) + ")" + (exceptions.length == 0 ? "" : " throws " + joined(exceptions));
    }

    private static String joined(Class<?>[] types) {
        StringBuilder text = new StringBuilder();
        for (Class<?> type : types) {
            text.append(text.length() == 0 ? "" : ", ").append(type.getSimpleName());
        }
        return text.toString();
    }

    /** The document's lines without the names of the parameters, which a compiled class does not keep. */
    private static Set<String> documentedFace() throws IOException {
        Set<String> found = new TreeSet<>();
        Matcher lines = FACE_LINE.matcher(Files.readString(DOCUMENT));
        while (lines.find()) {
            found.add(lines.group(1).replaceAll("(int|boolean) \\w+(?=[,)])", "$1"));
        }
        return found;
    }
}
