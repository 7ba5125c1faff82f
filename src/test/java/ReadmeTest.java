import java.io.IOException;
import java.lang.reflect.Method;
import java.lang.reflect.Modifier;
import java.net.URL;
import java.net.URLClassLoader;
import java.nio.file.Files;
import java.nio.file.Path;
import java.util.ArrayList;
import java.util.List;
import java.util.Set;
import java.util.TreeSet;
import java.util.regex.Matcher;
import java.util.regex.Pattern;
import java.util.stream.Stream;
import javax.tools.ToolProvider;

/**
 * README.md is held against the class: its Java is compiled and run as it stands, and each call that
 * begins a line must answer what the comment behind it begins with; where that says what a ROW is, so it is.
 */
public final class ReadmeTest extends Bench {
    private static final Pattern BLOCK = Pattern.compile("(?ms)^```java\\n(.*?)^```$");
    private static final Pattern CALL = Pattern.compile("(x\\.(\\w+)\\(.*\\)); *// "
        + "(-?\\d+|BAD|FULL|FINDING|STATE|SPENT|NONE)(?!\\w).*");
    private static final Pattern ROW_IS = Pattern.compile("ROW (\\d) is ([A-F](?:, [A-F])*)\\b");
    private static final String HEAD = "public final class Shown {\n"
        + "static final int BAD = -1, FULL = -2, FINDING = -3, STATE = -4, SPENT = -6, NONE = -9;\n"
        + "static String signs(SetAsMeant x, int r, int n) {\n"
        + "String signs = \"\";\n"
        + "for (int i = 0; i < n; i++) { signs += x.at(r, i) == 1 ? (char) (65 + x.asked()) : '?'; }\n"
        + "return signs;\n}\n"
        + "public static java.util.List<String[]> all() {\n"
        + "java.util.List<String[]> all = new java.util.ArrayList<>();\n";
    private static final Pattern ANSWER_ROW = Pattern.compile("(?m)^\\| `([A-Z]+)` *\\| (-\\d) \\|");
    private static final Pattern TEST_NAME = Pattern.compile("`(\\w+Test)`");

    public static void main(String[] args) throws Exception {
        String readme = Files.readString(Path.of("README.md"));
        answersTold(readme);
        callsShown(readme);
        testsTold(readme);
        end();
    }

    private static void answersTold(String readme) throws ReflectiveOperationException {
        where = "README.md, Answers";
        int rows = 0;
        for (Matcher m = ANSWER_ROW.matcher(readme); m.find(); rows++) {
            due(m.group(1), SetAsMeant.class.getField(m.group(1)).getInt(null), Integer.parseInt(m.group(2)));
        }
        due("answers that are told", rows, SetAsMeant.class.getFields().length);
    }

    private static void callsShown(String readme) throws Exception {
        where = "README.md, Use";
        Set<String> shown = new TreeSet<>();
        String source = source(readme, shown);
        for (Method method : SetAsMeant.class.getDeclaredMethods()) {
            if (Modifier.isPublic(method.getModifiers())) {
                due(method.getName() + "() is shown with its answer", shown.contains(method.getName()) ? 1 : 0, 1);
            }
        }
        for (Object row : run(source)) {
            String[] call = (String[]) row;
            due(call[0], call[1], call[2]);
        }
    }

    /** The README's Java as a class that lists each call, what it answered, and what is due. */
    private static String source(String readme, Set<String> shown) {
        StringBuilder s = new StringBuilder(HEAD);
        for (Matcher block = BLOCK.matcher(readme); block.find();) {
            for (String line : block.group(1).split("\n")) {
                Matcher call = CALL.matcher(line);
                if (call.matches()) {
                    shown.add(call.group(2));
                    String due = call.group(3).matches("-?\\d+") ? call.group(3) + "L" : call.group(3);
                    s.append(listed(call.group(1), call.group(1), due));
                    for (Matcher row = ROW_IS.matcher(line); row.find();) {
                        String signs = row.group(2).replace(", ", "");
                        s.append(listed(line, "signs(x, " + row.group(1) + ", " + signs.length() + ")",
                            "\"" + signs + "\""));
                    }
                } else {
                    due("'" + line + "' has an answer behind it", line.startsWith("x.") ? 0 : 1, 1);
                    s.append(line).append('\n');
                }
            }
        }
        return s.append("return all;\n}\n}\n").toString();
    }

    private static String listed(String what, String got, String due) {
        return "all.add(new String[] {\"" + what.replace("\"", "'") + "\", \"\" + " + got + ", \"\" + " + due + "});\n";
    }

    private static List<?> run(String source) throws Exception {
        Path room = Files.createTempDirectory("readme");
        try {
            Path file = Files.writeString(room.resolve("Shown.java"), source);
            int failed = ToolProvider.getSystemJavaCompiler().run(null, null, null, "-d", room.toString(),
                "-cp", System.getProperty("java.class.path"), file.toString());
            due("its Java compiles", failed, 0);
            if (failed != 0) {
                return List.of();
            }
            try (URLClassLoader loader = new URLClassLoader(new URL[] {room.toUri().toURL()})) {
                return (List<?>) loader.loadClass("Shown").getMethod("all").invoke(null);
            }
        } finally {
            clear(room);
        }
    }

    private static void clear(Path room) throws IOException {
        List<Path> files = new ArrayList<>();
        try (Stream<Path> all = Files.list(room)) {
            all.forEach(files::add);
        }
        for (Path file : files) {
            Files.delete(file);
        }
        Files.delete(room);
    }

    private static void testsTold(String readme) throws IOException {
        where = "README.md, Tests";
        Set<String> told = new TreeSet<>();
        for (Matcher m = TEST_NAME.matcher(readme); m.find();) {
            told.add(m.group(1));
        }
        Set<String> there = new TreeSet<>();
        try (Stream<Path> all = Files.list(Path.of("src/test/java"))) {
            all.forEach(file -> there.add(file.getFileName().toString().replace(".java", "")));
        }
        due("the tests that it tells of", told.toString(), there.toString());
        due(".ci/run is told, and can be run", readme.contains("\n    .ci/run\n")
            && Files.isExecutable(Path.of(".ci/run")) ? 1 : 0, 1);
        due("the tests under ../shared/tests are told", readme.contains("`../shared/tests`") ? 1 : 0, 1);
    }
}
