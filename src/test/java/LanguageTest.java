import java.lang.reflect.Constructor;
import java.lang.reflect.Field;
import java.lang.reflect.Method;
import java.lang.reflect.Modifier;
import java.nio.file.Files;
import java.nio.file.Path;
import java.util.Set;
import java.util.TreeSet;
import java.util.regex.Matcher;
import java.util.regex.Pattern;

/** Rules of LANGUAGE.md that a plain look at the class and its source can tell. */
public final class LanguageTest {
    private static final Checks CHECKS = new Checks("LanguageTest");
    private static final Path SOURCE = Path.of("src/main/java/ZigzagLines.java");
    private static final Set<String> FACE = new TreeSet<>(Set.of(
            "write", "wipe", "fault", "lay", "mode", "save", "send", "receive", "fail", "gather",
            "drive", "process", "knows", "saved", "message", "underway", "way", "cause", "line",
            "back", "pick", "unpick", "through", "count"));
    private static final String[] LIBRARY = {"System.arraycopy", "Math.max", "Math.min",
        "Integer.bitCount"};

    public static void main(String[] args) throws Exception {
        face();
        classesInside();
        source();
        CHECKS.end();
    }

    private static void face() {
        Class<?> type = ZigzagLines.class;
        CHECKS.due("public and final", type.getModifiers(), Modifier.PUBLIC | Modifier.FINAL);
        Constructor<?>[] constructors = type.getDeclaredConstructors();
        CHECKS.due("one constructor", constructors.length, 1);
        CHECKS.due("without arguments", constructors[0].getParameterCount(), 0);
        Set<String> open = new TreeSet<>();
        for (Method method : type.getDeclaredMethods()) {
            if (!Modifier.isPrivate(method.getModifiers()) && !method.isSynthetic()) {
                open.add(method.getName());
                CHECKS.due(method.getName() + " is public", method.getModifiers(), Modifier.PUBLIC);
            } else {
                CHECKS.due(method.getName() + " bears a public name",
                        FACE.contains(method.getName()) ? 1 : 0, 0);
            }
        }
        CHECKS.due("the face " + open, open.equals(FACE) ? 1 : 0, 1);
        Set<String> constants = new TreeSet<>();
        for (Field field : type.getDeclaredFields()) {
            if (!Modifier.isPrivate(field.getModifiers())) {
                constants.add(field.getName());
            }
        }
        CHECKS.due("the constants " + constants,
                constants.equals(Set.of("BAD", "NO", "FULL", "NONE")) ? 1 : 0, 1);
        CHECKS.due("BAD", ZigzagLines.BAD, -1);
        CHECKS.due("NO", ZigzagLines.NO, -2);
        CHECKS.due("FULL", ZigzagLines.FULL, -3);
        CHECKS.due("NONE", ZigzagLines.NONE, -4);
    }

    private static void classesInside() {
        Class<?>[] inside = ZigzagLines.class.getDeclaredClasses();
        CHECKS.due("at most twelve classes", Math.max(inside.length + 1, 12), 12);
        for (Class<?> type : inside) {
            int modifiers = type.getModifiers();
            CHECKS.due(type + " is static", Modifier.isStatic(modifiers) ? 1 : 0, 1);
            CHECKS.due(type + " is open", modifiers & (Modifier.PUBLIC | Modifier.PROTECTED), 0);
            CHECKS.due(type + " has twenty fields at most",
                    Math.max(type.getDeclaredFields().length, 20), 20);
            for (Method method : type.getDeclaredMethods()) {
                CHECKS.due(method + " bears a public name",
                        FACE.contains(method.getName()) ? 1 : 0, 0);
                CHECKS.due(method + " takes seven at most",
                        Math.max(method.getParameterCount(), 7), 7);
            }
        }
    }

    private static void source() throws Exception {
        String text = Files.readString(SOURCE);
        String code = text.replaceAll("(?s)/\\*.*?\\*/", "").replaceAll("//[^\n]*", "")
                .replaceAll("\"[^\"\n]*\"", "\"\"");
        String[] forbidden = {"\\bthrow\\b", "\\btry\\b", "\\bcatch\\b", "\\bsynchronized\\b",
            "\\bassert\\b", "\\bthrows\\b", "->", "::", "\\bprotected\\b", "\\bpackage\\b",
            "\\bimport\\b", "\\bObject\\b", "\\bgoto\\b", "while \\(true\\)", "for \\(;;\\)",
            "\\b(equals|hashCode|toString)\\b", "static \\{"};
        for (String sign : forbidden) {
            CHECKS.due("the source has " + sign,
                    Pattern.compile(sign).matcher(code).find() ? 1 : 0, 0);
        }
        Matcher library = Pattern.compile("\\b(System|Math|Integer|Long|Arrays|String)\\.\\w+")
                .matcher(code);
        while (library.find()) {
            CHECKS.due("the library has " + library.group(),
                    Set.of(LIBRARY).contains(library.group()) ? 1 : 0, 1);
        }
        for (int i = 0; i < text.length(); i++) {
            CHECKS.due("sign " + i + " is ASCII", Math.max(text.charAt(i), 126), 126);
        }
    }
}
