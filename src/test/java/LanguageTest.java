import java.lang.reflect.Constructor;
import java.lang.reflect.Field;
import java.lang.reflect.Method;
import java.lang.reflect.Modifier;
import java.nio.file.Files;
import java.nio.file.Path;
import java.util.ArrayList;
import java.util.List;
import java.util.Set;
import java.util.TreeSet;
import java.util.regex.Matcher;
import java.util.regex.Pattern;

/** What of ../shared/LANGUAGE.md, and of the document's face, can be seen by a machine. */
public final class LanguageTest {
    private static int wrong = 0;

    public static void main(String[] args) throws Exception {
        Path source = Path.of("src/main/java/SetAsMeant.java");
        String raw = Files.readString(source);
        String code = withoutComments(raw);
        face();
        members();
        words(code);
        lengths(code);
        if (raw.chars().anyMatch(c -> c > 127)) {
            say("3", "a sign above 127");
        }
        System.out.println(wrong == 0 ? "all answers are as due" : wrong + " rules are broken");
        if (wrong != 0) {
            System.exit(1);
        }
    }

    private static void say(String rule, String what) {
        wrong++;
        System.out.println("rule " + rule + ": " + what);
    }

    private static String withoutComments(String raw) {
        return raw.replaceAll("(?s)/\\*.*?\\*/", "").replaceAll("//[^\n]*", "");
    }

    private static final String[] FACE = {
        "int row(int,int)", "int lay(int,int,int)", "int at(int,int)", "int tear(int)",
        "int copy(int,int,int,int,int)", "int mean(int)", "int text(int,int)", "int put(int,int,int)",
        "int fault(int)", "int press(int)", "int law(int,int)", "int mark(int,int)", "int hush(int,int)",
        "int swap(int,int)", "int set(int,int)", "int by(int,int)", "int first(int)", "int again(int,int,int)",
        "int rests(int)", "int same(int,int)", "int meant(int,int)", "int smallest(int,int)", "int outs(int)",
        "int twins(int,int)", "int harmless(int,int)", "int believed(int,int,int)", "int forbid(int)",
        "int silence(int,int)", "int which(int,int)", "int kinds(int,int,int)", "int odds(int,int,int)",
        "int mid(int,int)", "int print(int)", "int ink(int)", "int undo(int)", "int drawer(int,int)",
        "int lots(int,int)", "int keep(int)", "int on(int)", "int asked()", "long upper()", "long lower()",
        "int count(int)", "int finding()", "int findings(int)", "long digest()"};

    private static void face() {
        Set<String> want = new TreeSet<>(List.of(FACE));
        Set<String> got = new TreeSet<>();
        for (Method m : SetAsMeant.class.getDeclaredMethods()) {
            if (!Modifier.isPrivate(m.getModifiers())) {
                List<String> types = new ArrayList<>();
                for (Class<?> type : m.getParameterTypes()) {
                    types.add(type.getName());
                }
                got.add(m.getReturnType().getName() + " " + m.getName() + "(" + String.join(",", types) + ")");
            }
        }
        if (!got.equals(want)) {
            say("1", "the methods are " + got);
        }
        Set<String> constants = new TreeSet<>();
        for (Field f : SetAsMeant.class.getDeclaredFields()) {
            if (!Modifier.isPrivate(f.getModifiers())) {
                constants.add(f.getName());
            }
        }
        if (!constants.equals(new TreeSet<>(List.of("BAD", "FULL", "FINDING", "STATE", "SPENT", "NONE")))) {
            say("1", "the constants are " + constants);
        }
        Constructor<?>[] made = SetAsMeant.class.getDeclaredConstructors();
        if (made.length != 1 || made[0].getParameterCount() != 0 || !Modifier.isPublic(made[0].getModifiers())) {
            say("1", "there is another constructor than the public one");
        }
        if (!Modifier.isFinal(SetAsMeant.class.getModifiers())) {
            say("1", "the class is not final");
        }
    }

    private static void members() {
        List<Class<?>> all = new ArrayList<>(List.of(SetAsMeant.class.getDeclaredClasses()));
        if (all.size() + 1 > 12) {
            say("11", "there are " + (all.size() + 1) + " classes");
        }
        Set<String> names = new TreeSet<>();
        for (String method : FACE) {
            names.add(method.replaceAll(".* |\\(.*", ""));
        }
        for (Class<?> inside : all) {
            if (!Modifier.isStatic(inside.getModifiers()) || Modifier.isPublic(inside.getModifiers())
                    || Modifier.isProtected(inside.getModifiers())) {
                say("1", inside.getName() + " is not static, or seen from outside");
            }
            if (inside.getDeclaredClasses().length > 0 || inside.isLocalClass() || inside.isAnonymousClass()) {
                say("2", inside.getName());
            }
        }
        all.add(SetAsMeant.class);
        for (Class<?> one : all) {
            int fields = 0;
            for (Field f : one.getDeclaredFields()) {
                boolean isStatic = Modifier.isStatic(f.getModifiers());
                fields += isStatic ? 0 : 1;
                if (isStatic && !Modifier.isFinal(f.getModifiers())) {
                    say("5", one.getName() + "." + f.getName() + " is not final");
                }
            }
            if (fields > 20) {
                say("11", one.getName() + " has " + fields + " fields");
            }
            for (Method m : one.getDeclaredMethods()) {
                if (m.getParameterCount() > 7) {
                    say("11", one.getName() + "." + m.getName() + " has too many parameters");
                }
                if ((one != SetAsMeant.class || Modifier.isPrivate(m.getModifiers())) && names.contains(m.getName())) {
                    say("1", one.getName() + "." + m.getName() + " bears the name of a public method");
                }
                if (Set.of("equals", "hashCode", "toString", "finalize").contains(m.getName())) {
                    say("6", one.getName() + "." + m.getName());
                }
            }
        }
    }

    private static void words(String code) {
        String[][] banned = {
            {"6", "\\b(throw|throws|try|catch|finally|synchronized|assert|yield|volatile|native|transient)\\b"},
            {"2", "->|::"},
            {"5", "static\\s*\\{"},
            {"4", "\\w+Exact\\b"},
            {"4", "\\bimport\\s+(?!java\\.util\\.(Arrays|ArrayList|List);)"},
            {"4", "\\bArrays\\.(?!fill\\b|copyOf\\b|copyOfRange\\b)"},
            {"4", "\\bSystem\\.(?!arraycopy\\b)"},
            {"4", "\\bMath\\.(?!min\\b|max\\b|abs\\b)"},
            {"4", "\\bInteger\\.(?!bitCount\\b|compare\\b)"},
            {"3", "\\[\\]\\s*\\[\\]\\s*\\["},
            {"9", "while\\s*\\(\\s*true|for\\s*\\(\\s*;\\s*;"},
            {"13", "\\b(Random|Thread|Runtime|Process|File|Date|Instant)\\b"},
        };
        for (String[] ban : banned) {
            Matcher m = Pattern.compile(ban[1]).matcher(code);
            while (m.find()) {
                say(ban[0], m.group());
            }
        }
        if (Pattern.compile("^\\s*package\\b", Pattern.MULTILINE).matcher(code).find()) {
            say("the first", "a package line");
        }
    }

    /** Methods are told by their indents, which are four more for each class around them. */
    private static void lengths(String code) {
        String[] lines = code.split("\n");
        for (String indent : new String[] {"    ", "        "}) {
            int from = -1;
            for (int i = 0; i < lines.length; i++) {
                boolean opens = lines[i].matches(indent + "[\\w].*\\) \\{");
                boolean isClass = lines[i].matches(".*\\b(class|interface|enum)\\b.*");
                if (opens && !isClass) {
                    from = i;
                } else if (from >= 0 && lines[i].equals(indent + "}")) {
                    if (i - from + 1 > 60) {
                        say("11", (i - from + 1) + " lines: " + lines[from].trim());
                    }
                    from = -1;
                }
            }
        }
    }
}
