import java.io.File;
import java.lang.reflect.Method;
import java.lang.reflect.Modifier;
import java.net.URL;
import java.net.URLClassLoader;
import java.nio.file.Files;
import java.nio.file.Path;
import java.util.ArrayList;
import java.util.Arrays;
import java.util.List;
import java.util.Map;
import java.util.Random;
import java.util.Set;
import java.util.TreeMap;
import java.util.TreeSet;
import java.util.regex.Matcher;
import java.util.regex.Pattern;
import javax.tools.ToolProvider;

/** README.md is true of the class: its rows of Java are run, its tables are compared. */
public final class ReadmeTest {
    private static final Checks CHECKS = new Checks("ReadmeTest");
    private static final Path README = Path.of("README.md");
    private static final Path TESTS = Path.of("src/test/java");
    private static final List<String> CONSTANTS = List.of("BAD", "NO", "FULL", "NONE");

    private static final Set<String> CLEARING = Set.of("wipe", "lay", "unpick");

    /** A row of Java with an answer behind it: the call, then a number or a constant. */
    private static final Pattern ASKED =
            Pattern.compile("(x\\.(\\w+)\\([^;]*\\)); *// (-?\\d+|BAD|NO|FULL|NONE)\\b.*");

    private static final Set<String> RUN = new TreeSet<>();

    public static void main(String[] args) throws Exception {
        List<String> page = Files.readAllLines(README);
        Map<String, Method> face = face();
        runRows(page);
        CHECKS.due("each call stands in a row: " + RUN, RUN.containsAll(face.keySet()) ? 1 : 0, 1);
        compareRefusals(page, face);
        compareTests(page);
        CHECKS.end();
    }

    /** Called by the rows of the page. */
    public static void due(String call, int got, int want) {
        CHECKS.due("README.md: " + call, got, want);
    }

    private static Map<String, Method> face() {
        Map<String, Method> face = new TreeMap<>();
        for (Method method : ZigzagLines.class.getDeclaredMethods()) {
            if (Modifier.isPublic(method.getModifiers())) {
                face.put(method.getName(), method);
            }
        }
        return face;
    }

    // ---- the rows of Java

    private static void runRows(List<String> page) throws Exception {
        StringBuilder source = new StringBuilder("public final class ReadmeRows {\n");
        int blocks = 0;
        boolean inside = false;
        for (String row : page) {
            if (row.equals("```java")) {
                inside = true;
                source.append("public static void block").append(blocks).append("() {\n");
            } else if (row.equals("```") && inside) {
                inside = false;
                source.append("}\n");
                blocks++;
            } else if (inside) {
                source.append(asJava(row)).append('\n');
            }
        }
        CHECKS.due("blocks of Java", blocks > 0 ? 1 : 0, 1);
        run(source.append("}\n").toString(), blocks);
    }

    private static String asJava(String row) {
        Matcher asked = ASKED.matcher(row);
        if (!asked.matches()) {
            CHECKS.due("a row with an answer that is not read: " + row,
                    row.contains("//") ? 1 : 0, 0);
            for (Matcher call = Pattern.compile("x\\.(\\w+)\\(").matcher(row); call.find();) {
                RUN.add(call.group(1));
            }
            return row;
        }
        RUN.add(asked.group(2));
        String want = asked.group(3);
        return "ReadmeTest.due(\"" + asked.group(1) + "\", " + asked.group(1) + ", "
                + (CONSTANTS.contains(want) ? "ZigzagLines." + want : want) + ");";
    }

    private static void run(String source, int blocks) throws Exception {
        Path place = Files.createTempDirectory("readme");
        Path file = place.resolve("ReadmeRows.java");
        Files.writeString(file, source);
        int compiled = ToolProvider.getSystemJavaCompiler().run(null, null, null, "-proc:none",
                "-cp", System.getProperty("java.class.path"), "-d", place.toString(),
                file.toString());
        CHECKS.due("README.md's rows compile", compiled, 0);
        if (compiled == 0) {
            URL[] urls = {place.toUri().toURL()};
            try (URLClassLoader loader =
                    new URLClassLoader(urls, ReadmeTest.class.getClassLoader())) {
                for (int block = 0; block < blocks; block++) {
                    loader.loadClass("ReadmeRows").getMethod("block" + block).invoke(null);
                }
            }
        }
        for (File made : place.toFile().listFiles()) {
            Files.delete(made.toPath());
        }
        Files.delete(place);
    }

    // ---- the table of refusals

    private static void compareRefusals(List<String> page, Map<String, Method> face)
            throws Exception {
        Map<String, Set<String>> told = toldRefusals(page);
        CHECKS.due("calls told " + told.keySet(), told.keySet().equals(face.keySet()) ? 1 : 0, 1);
        Map<String, Set<String>> seen = seenRefusals(face);
        for (String call : face.keySet()) {
            Set<String> want = seen.get(call);
            Set<String> row = told.getOrDefault(call, Set.of());
            CHECKS.due(call + " is told to refuse by " + row + ", was seen to by " + want,
                    row.equals(want) ? 1 : 0, 1);
        }
    }

    private static Map<String, Set<String>> toldRefusals(List<String> page) {
        Map<String, Set<String>> told = new TreeMap<>();
        for (String row : tableBehind(page, "| call | what it answers beside a number |")) {
            String[] cells = row.split("\\|", -1);
            Set<String> answers = new TreeSet<>();
            for (Matcher word = Pattern.compile("`(\\w+)`").matcher(cells[2]); word.find();) {
                answers.add(word.group(1));
            }
            told.put(cells[1].replace("`", "").trim(), answers);
        }
        return told;
    }

    /** The rows of the table with this head. */
    private static List<String> tableBehind(List<String> page, String head) {
        List<String> rows = new ArrayList<>();
        int place = page.indexOf(head);
        CHECKS.due("the table " + head, place >= 0 ? 1 : 0, 1);
        for (int i = place + 2; place >= 0 && i < page.size(); i++) {
            if (!page.get(i).startsWith("|")) {
                break;
            }
            rows.add(page.get(i));
        }
        return rows;
    }

    private static Map<String, Set<String>> seenRefusals(Map<String, Method> face)
            throws Exception {
        Map<String, Set<String>> seen = new TreeMap<>();
        for (String call : face.keySet()) {
            seen.put(call, new TreeSet<>());
        }
        List<Method> calls = new ArrayList<>(face.values());
        for (int seed = 0; seed < 200; seed++) {
            Random random = new Random(seed);
            ZigzagLines x = begun(seed);
            for (int time = 0; time < 400; time++) {
                Method call = calls.get(random.nextInt(calls.size()));
                // What these clear must pile up for a while, or some refusals are never met.
                if (CLEARING.contains(call.getName()) && time < 300) {
                    continue;
                }
                note(seen.get(call.getName()), (Integer) call.invoke(x, drawn(call, random)));
            }
        }
        return seen;
    }

    /** Objects that are near to what draws alone would hardly meet. */
    private static ZigzagLines begun(int seed) {
        ZigzagLines x = new ZigzagLines();
        if (seed % 4 == 0) {
            // 1 goes back with 0 to its state 0, far below the state that was picked.
            x = Checks.laid("n2;c0;s01;r00;c1;c1;");
            x.pick(1, 3);
            x.fail(1);
        } else if (seed % 4 == 1) {
            Checks.write(x, "n2;m3;");
        } else if (seed % 4 == 2) {
            Checks.write(x, " ".repeat(200));
        } else {
            x.drive(seed, 60);
        }
        return x;
    }

    private static Object[] drawn(Method call, Random random) {
        Object[] numbers = new Object[call.getParameterCount()];
        int most = call.getName().equals("write") ? 140 : random.nextInt(4) == 0 ? 16 : 4;
        Arrays.setAll(numbers, i -> random.nextInt(most) - (random.nextInt(9) == 0 ? 2 : 0));
        return numbers;
    }

    private static void note(Set<String> answers, int answer) {
        if (answer < 0) {
            answers.add(answer >= -4 ? CONSTANTS.get(-answer - 1) : "no constant");
        }
    }

    // ---- the list of tests

    private static void compareTests(List<String> page) {
        Set<String> told = new TreeSet<>();
        for (String row : tableBehind(page, "| test | what it holds |")) {
            told.add(row.split("\\|", -1)[1].trim());
        }
        Set<String> there = new TreeSet<>();
        for (String name : TESTS.toFile().list()) {
            if (name.endsWith("Test.java")) {
                there.add(name.substring(0, name.length() - ".java".length()));
            }
        }
        CHECKS.due("tests told " + told + ", there are " + there, told.equals(there) ? 1 : 0, 1);
    }
}
