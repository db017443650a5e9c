import java.io.IOException;
import java.lang.reflect.InvocationTargetException;
import java.lang.reflect.Method;
import java.lang.reflect.Modifier;
import java.nio.file.Files;
import java.nio.file.Path;
import java.util.List;
import java.util.TreeMap;
import java.util.regex.Matcher;
import java.util.regex.Pattern;

/** What README.md says of use: its example is run, so that it cannot grow old unseen. */
public final class MailStoreReadme {
    private static final Pattern CALL = Pattern.compile("store\\.(\\w+)\\(([^)]*)\\); +// (\\S+): .+");

    private final MailStore store = new MailStore();
    private final TreeMap<String, Method> face = new TreeMap<>();
    private int wrong = 0;

    private MailStoreReadme() {
        for (Method m : MailStore.class.getDeclaredMethods()) {
            if (Modifier.isPublic(m.getModifiers())) {
                face.put(m.getName(), m);
            }
        }
    }

    public static void main(String[] args) throws IOException, IllegalAccessException {
        MailStoreReadme test = new MailStoreReadme();
        List<String> lines = Files.readAllLines(Path.of("README.md"));
        test.runExample(lines);
        test.findCalls(String.join("\n", lines));
        test.findTests(String.join("\n", lines));
        System.out.println(test.wrong == 0 ? "README.md is right" : test.wrong + " things in README.md are wrong");
        if (test.wrong != 0) {
            System.exit(1);
        }
    }

    private void complain(String what) {
        wrong++;
        System.out.println("README.md: " + what);
    }

    private void runExample(List<String> lines) throws IllegalAccessException {
        int from = lines.indexOf("```java");
        if (from < 0 || !lines.get(from + 1).equals("MailStore store = new MailStore();")) {
            complain("no example that begins with a new object");
            return;
        }
        for (int i = from + 2; !lines.get(i).equals("```"); i++) {
            String line = lines.get(i);
            if (!line.isEmpty() && !line.startsWith("// ")) {
                runLine(line);
            }
        }
    }

    private void runLine(String line) throws IllegalAccessException {
        Matcher m = CALL.matcher(line);
        if (!m.matches() || !face.containsKey(m.group(1))) {
            complain("no call with its answer: " + line);
            return;
        }
        String got = answer(face.get(m.group(1)), m.group(2));
        if (!got.equals(m.group(3))) {
            complain(line + " -- answered " + got);
        }
    }

    /** What a call answers, "nothing" if it has no answer, or the name of the exception that it throws. */
    private String answer(Method method, String arguments) throws IllegalAccessException {
        String[] words = arguments.isEmpty() ? new String[0] : arguments.split(", ");
        Object[] numbers = new Object[words.length];
        for (int i = 0; i < words.length; i++) {
            numbers[i] = Integer.decode(words[i]);
        }
        try {
            Object got = method.invoke(store, numbers);
            return got == null ? "nothing" : got.toString();
        } catch (InvocationTargetException e) {
            return e.getCause().getClass().getSimpleName();
        }
    }

    private void findCalls(String text) {
        for (String name : face.keySet()) {
            if (!text.contains("store." + name + "(")) {
                complain("the example does not use " + name);
            }
            if (!text.contains("| `" + name + "(")) {
                complain("the calls lack " + name);
            }
        }
    }

    private void findTests(String text) throws IOException {
        try (var files = Files.list(Path.of("src/test/java"))) {
            files.map(file -> file.getFileName().toString().replace(".java", "")).forEach(name -> {
                if (!text.contains("`" + name + "`")) {
                    complain("the tests lack " + name);
                }
            });
        }
        if (!text.contains(".ci/run")) {
            complain("how to run the tests");
        }
    }
}
