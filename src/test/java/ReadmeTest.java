import java.io.IOException;
import java.lang.reflect.Method;
import java.lang.reflect.Modifier;
import java.nio.file.Files;
import java.nio.file.Path;
import java.util.List;
import java.util.TreeSet;
import java.util.regex.Matcher;
import java.util.regex.Pattern;
import java.util.stream.Collectors;
import java.util.stream.Stream;

/** What README.md says is so: the answers behind its calls, the names of tests and of classes. */
public final class ReadmeTest {
    private static final Pattern NEW = Pattern.compile("ShapeMoves x = new ShapeMoves\\(\\);");
    private static final Pattern TEXT = Pattern.compile("for \\(char sign : \"([^\"]*)\"\\.toCharArray\\(\\)\\) \\{");
    private static final Pattern CALL = Pattern.compile("x\\.(\\w+)\\(([^()]*)\\); +// (-?\\d+|NO)(?:: .+)?");
    private static final List<String> HELPERS = List.of("Due", "SetUps", "Whole", "PlainModel");

    private static final Due due = new Due("ReadmeTest");
    private static final TreeSet<String> called = new TreeSet<>();

    public static void main(String[] args) throws IOException, ReflectiveOperationException {
        List<String> lines = Files.readAllLines(Path.of("README.md"));
        calls(lines);
        everyCall();
        names(String.join("\n", lines));
        due.end();
    }

    /** Every line of every block of Java is one that is made here, or it is told as a wrong one. */
    private static void calls(List<String> lines) throws ReflectiveOperationException {
        due.promise("README.md, its calls");
        boolean isJava = false;
        ShapeMoves x = null;
        for (int i = 0; i < lines.size(); i++) {
            String line = lines.get(i);
            Matcher text = TEXT.matcher(line);
            if (line.startsWith("```")) {
                isJava = line.equals("```java");
                x = null;
            } else if (!isJava) {
                continue;
            } else if (NEW.matcher(line).matches()) {
                x = new ShapeMoves();
            } else if (text.matches() && lines.get(i + 1).equals("    x.feed(sign);") && lines.get(i + 2).equals("}")) {
                SetUps.feed(x, text.group(1));
                called.add("feed");
                i += 2;
            } else {
                call(x, i + 1, line);
            }
        }
    }

    private static void call(ShapeMoves x, int number, String line) throws ReflectiveOperationException {
        Matcher call = CALL.matcher(line);
        due.is("line " + number + " is a call and its answer: " + line, call.matches() && x != null ? 1 : 0, 1);
        if (!call.matches() || x == null) {
            return;
        }
        called.add(call.group(1));
        String[] words = call.group(2).isEmpty() ? new String[0] : call.group(2).split(", ");
        long want = call.group(3).equals("NO") ? ShapeMoves.NO : Long.parseLong(call.group(3));
        due.is("line " + number + ": " + line, answer(x, call.group(1), words), want);
    }

    private static long answer(ShapeMoves x, String name, String[] words) throws ReflectiveOperationException {
        for (Method method : ShapeMoves.class.getDeclaredMethods()) {
            if (method.getName().equals(name) && Modifier.isPublic(method.getModifiers())) {
                Class<?>[] types = method.getParameterTypes();
                Object[] given = new Object[types.length];
                for (int i = 0; i < types.length; i++) {
                    given[i] = types[i] == boolean.class ? (Object) Boolean.valueOf(words[i])
                            : types[i] == long.class ? (Object) Long.valueOf(words[i]) : Integer.valueOf(words[i]);
                }
                return ((Number) method.invoke(x, given)).longValue();
            }
        }
        throw new IllegalStateException("no such call: " + name);
    }

    private static void everyCall() {
        due.promise("README.md, how the class is used");
        for (Method method : ShapeMoves.class.getDeclaredMethods()) {
            if (Modifier.isPublic(method.getModifiers())) {
                due.is(method.getName() + " is shown", called.contains(method.getName()) ? 1 : 0, 1);
            }
        }
    }

    private static void names(String readme) throws IOException {
        due.promise("README.md, names");
        TreeSet<String> named = new TreeSet<>();
        Matcher name = Pattern.compile("`([A-Z]\\w*[a-z]\\w*)`").matcher(readme);
        while (name.find()) {
            named.add(name.group(1));
        }
        TreeSet<String> there = new TreeSet<>();
        try (Stream<Path> files = Files.list(Path.of("src/test/java"))) {
            there.addAll(files.map(file -> file.getFileName().toString().replace(".java", ""))
                    .collect(Collectors.toList()));
        }
        for (Class<?> inside : ShapeMoves.class.getDeclaredClasses()) {
            there.add(inside.getSimpleName());
        }
        due.isSame("what README.md names", named.toString(), there.toString());
        for (String helper : HELPERS) {
            due.is(helper + " is no test program", there.contains(helper) ? 1 : 0, 1);
        }
        due.is("no other files without tests", there.stream().filter(file -> !file.endsWith("Test")).count(),
                HELPERS.size() + ShapeMoves.class.getDeclaredClasses().length);
    }
}
