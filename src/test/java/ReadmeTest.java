import java.io.IOException;
import java.lang.reflect.Method;
import java.net.URL;
import java.net.URLClassLoader;
import java.nio.file.Files;
import java.nio.file.Path;
import java.util.List;
import java.util.Map;
import java.util.TreeMap;
import java.util.TreeSet;
import java.util.concurrent.Callable;
import java.util.regex.Matcher;
import java.util.regex.Pattern;
import javax.tools.ToolProvider;

/**
 * The examples of README.md, compiled and run as they stand there: each call must answer what is
 * named first behind it, and must have something named behind it.
 */
public final class ReadmeTest {
    private static final Due DUE = new Due();
    private static final Pattern CALL = Pattern.compile("\\s*(wire\\.(\\w+)\\(.*\\));\\s*(?://\\s*(\\w+).*)?");
    private static final String PROGRAM_NAME = "ReadmeExamples";
    private static final String PROGRAM_HEAD = "import java.util.ArrayList;\nimport java.util.List;\n"
            + "import java.util.concurrent.Callable;\n"
            + "public final class " + PROGRAM_NAME + " implements Callable<List<String>> {\n"
            + "private final List<String> answers = new ArrayList<>();\n"
            + "private void ask(int line, Callable<Object> call) {\n"
            + "String answer;\n"
            + "try { answer = String.valueOf(call.call()); }\n"
            + "catch (Exception e) { answer = e.getClass().getSimpleName(); }\n"
            + "answers.add(line + \" \" + answer);\n}\n"
            + "public List<String> call() {\n";
    private static final String PROGRAM_END = "return answers;\n}\n}\n";

    private final Map<Integer, String> named = new TreeMap<>();
    private final TreeSet<String> methodsShown = new TreeSet<>();
    private final StringBuilder program = new StringBuilder(PROGRAM_HEAD);

    public static void main(String[] args) throws Exception {
        ReadmeTest test = new ReadmeTest();
        test.takeExamples(Files.readAllLines(Path.of("README.md")));
        DUE.equal("methods shown", test.methodsShown.toString(), methodsOfTheFace().toString());
        test.compare(test.answers());
        DUE.end();
    }

    private static TreeSet<String> methodsOfTheFace() {
        TreeSet<String> names = new TreeSet<>();
        for (Method method : SharedWire.class.getMethods()) {
            if (method.getDeclaringClass() == SharedWire.class) {
                names.add(method.getName());
            }
        }
        return names;
    }

    private void takeExamples(List<String> lines) {
        boolean inExample = false;
        for (int i = 0; i < lines.size(); i++) {
            String line = lines.get(i);
            if (line.startsWith("```")) {
                inExample = line.equals("```java");
                program.append(inExample ? "{\n" : line.equals("```") ? "}\n" : "");
            } else if (inExample) {
                program.append(line.contains("wire.") ? asked(i + 1, line) : line).append('\n');
            }
        }
        program.append(PROGRAM_END);
    }

    private String asked(int number, String line) {
        Matcher call = CALL.matcher(line);
        boolean isNamed = call.matches() && call.group(3) != null;
        DUE.equal("README.md:" + number + " names an answer", isNamed, true);
        if (!isNamed) {
            return "";
        }
        named.put(number, call.group(3));
        methodsShown.add(call.group(2));
        String body = call.group(2).equals("flip")
                ? "{ " + call.group(1) + "; return \"nothing\"; }"
                : call.group(1);
        return "ask(" + number + ", () -> " + body + ");";
    }

    private List<String> answers() throws Exception {
        Path folder = Files.createTempDirectory("readme");
        try {
            return run(folder);
        } finally {
            for (String ending : new String[] {".java", ".class"}) {
                Files.deleteIfExists(folder.resolve(PROGRAM_NAME + ending));
            }
            Files.delete(folder);
        }
    }

    private List<String> run(Path folder) throws Exception {
        Path source = folder.resolve(PROGRAM_NAME + ".java");
        Files.writeString(source, program);
        String classes = System.getProperty("java.class.path");
        int failed = ToolProvider.getSystemJavaCompiler()
                .run(null, null, null, "-cp", classes, "-d", folder.toString(), source.toString());
        if (failed != 0) {
            throw new IOException("the examples do not compile");
        }
        try (URLClassLoader loader = new URLClassLoader(new URL[] {folder.toUri().toURL()})) {
            Object examples = loader.loadClass(PROGRAM_NAME).getConstructor().newInstance();
            return textsOf(((Callable<?>) examples).call());
        }
    }

    private static List<String> textsOf(Object list) {
        return ((List<?>) list).stream().map(String::valueOf).toList();
    }

    private void compare(List<String> answers) {
        TreeSet<Integer> asked = new TreeSet<>();
        for (String answer : answers) {
            int space = answer.indexOf(' ');
            int line = Integer.parseInt(answer.substring(0, space));
            asked.add(line);
            DUE.equal("README.md:" + line, answer.substring(space + 1), named.get(line));
        }
        DUE.equal("lines asked", asked.toString(), named.keySet().toString());
    }
}
