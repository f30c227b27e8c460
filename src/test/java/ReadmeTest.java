import java.io.IOException;
import java.lang.reflect.Method;
import java.lang.reflect.Modifier;
import java.net.URL;
import java.net.URLClassLoader;
import java.nio.file.Files;
import java.nio.file.Path;
import java.util.ArrayList;
import java.util.Comparator;
import java.util.List;
import java.util.function.Supplier;
import java.util.regex.Matcher;
import java.util.regex.Pattern;
import java.util.stream.Stream;
import javax.tools.JavaCompiler;
import javax.tools.ToolProvider;

/** The calls that README.md shows as an example answer what README.md says that they answer. */
public final class ReadmeTest {
    private static final Path README = Path.of("README.md");
    private static final String MAKING = "FixedKinds x = new FixedKinds();";
    private static final Pattern BLOCK = Pattern.compile("(?ms)^```java\n(.*?)^```$");
    // A call, kept by a name or not, and its answer; what follows a colon explains it.
    private static final Pattern CALL = Pattern.compile(
            "(?:(\\w+) (\\w+) = )?(x\\.(\\w+)\\([^()]*\\));\\s+// (-?\\d+|true|false|throws \\w+)(?:: (.+))?");
    private static final Pattern TEXT = Pattern.compile("\"(.*)\"");
    private static final Pattern CHARACTER = Pattern.compile("'(.)'");
    private static int wrong = 0;

    /** What is asked of one line, as Java, and the answer that is due. */
    private record Asked(String line, String java, String want) {
    }

    private static void fault(String what) {
        wrong++;
        System.out.println(what);
    }

    private static List<String> exampleLines(String readme) {
        List<String> lines = new ArrayList<>();
        Matcher block = BLOCK.matcher(readme);
        while (block.find()) {
            block.group(1).lines().filter(line -> !line.isBlank()).forEach(lines::add);
        }
        return lines;
    }

    private static void askLine(String line, List<Asked> asked) {
        Matcher call = CALL.matcher(line);
        if (!call.matches()) {
            fault("no call with its answer: " + line);
            return;
        }
        String kept = call.group(1) == null ? "" : call.group(1) + " " + call.group(2) + " = " + call.group(3) + "; ";
        String expression = call.group(1) == null ? call.group(3) : call.group(2);
        asked.add(new Asked(line, kept + "ReadmeTest.ask(answers, () -> " + expression + ");", call.group(5)));
        askWords(line, call.group(4), call.group(5), String.valueOf(call.group(6)), asked);
    }

    /** A text in quotes behind text(), and a character in quotes behind at(), are answers too. */
    private static void askWords(String line, String name, String answer, String words, List<Asked> asked) {
        Matcher text = TEXT.matcher(words);
        Matcher character = CHARACTER.matcher(words);
        if (name.equals("text") && text.matches()) {
            asked.add(new Asked(line, "ReadmeTest.ask(answers, () -> ReadmeTest.text(x));", text.group(1)));
        } else if (name.equals("at") && character.matches()) {
            asked.add(new Asked(line, "answers.add(\"" + (int) character.group(1).charAt(0) + "\");", answer));
        }
    }

    /** For the example's class, which another loader brings: hence public. */
    public static void ask(List<String> answers, Supplier<Object> call) {
        try {
            answers.add(String.valueOf(call.get()));
        } catch (RuntimeException e) {
            answers.add("throws " + e.getClass().getSimpleName());
        }
    }

    public static String text(FixedKinds x) {
        return State.text(x);
    }

    private static String source(List<Asked> asked) {
        StringBuilder java = new StringBuilder("public final class ReadmeExample {\n"
                + "  public static void run(java.util.List<String> answers) {\n    " + MAKING + "\n");
        for (Asked one : asked) {
            java.append("    ").append(one.java()).append('\n');
        }
        return java.append("  }\n}\n").toString();
    }

    private static List<String> answers(String source, Path room) throws IOException, ReflectiveOperationException {
        Path file = room.resolve("ReadmeExample.java");
        Files.writeString(file, source);
        JavaCompiler compiler = ToolProvider.getSystemJavaCompiler();
        String path = System.getProperty("java.class.path");
        int failed = compiler.run(null, null, null, "--release", "17", "-proc:none", "-cp", path, "-d", room.toString(), file.toString());
        List<String> answers = new ArrayList<>();
        if (failed != 0) {
            fault("the example does not compile");
            return answers;
        }
        try (URLClassLoader loader = new URLClassLoader(new URL[] {room.toUri().toURL()})) {
            loader.loadClass("ReadmeExample").getMethod("run", List.class).invoke(null, answers);
        }
        return answers;
    }

    private static List<String> answersInOwnRoom(String source) throws IOException, ReflectiveOperationException {
        Path room = Files.createTempDirectory("readme");
        try {
            return answers(source, room);
        } finally {
            try (Stream<Path> files = Files.walk(room)) {
                files.sorted(Comparator.reverseOrder()).forEach(file -> file.toFile().delete());
            }
        }
    }

    private static void compare(List<Asked> asked, List<String> answers) {
        if (asked.size() != answers.size()) {
            fault(answers.size() + " answers, due are " + asked.size());
            return;
        }
        for (int i = 0; i < answers.size(); i++) {
            if (!answers.get(i).equals(asked.get(i).want())) {
                fault("README.md: " + asked.get(i).line() + " answered " + answers.get(i));
            }
        }
    }

    private static void everyCallIsShown(List<String> lines) {
        for (Method method : FixedKinds.class.getDeclaredMethods()) {
            String call = "x." + method.getName() + "(";
            if (Modifier.isPublic(method.getModifiers()) && lines.stream().noneMatch(line -> line.contains(call))) {
                fault("README.md shows no " + method.getName() + "()");
            }
        }
    }

    public static void main(String[] args) throws IOException, ReflectiveOperationException {
        List<String> lines = exampleLines(Files.readString(README));
        List<Asked> asked = new ArrayList<>();
        if (lines.isEmpty() || !lines.remove(0).equals(MAKING)) {
            fault("the example does not begin with " + MAKING);
        }
        for (String line : lines) {
            askLine(line, asked);
        }
        everyCallIsShown(lines);
        compare(asked, answersInOwnRoom(source(asked)));
        System.out.println("ReadmeTest: " + asked.size() + " answers, "
                + (wrong == 0 ? "all are as README.md says" : wrong + " faults"));
        if (wrong != 0) {
            System.exit(1);
        }
    }
}
