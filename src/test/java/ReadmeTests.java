import java.io.File;
import java.net.URL;
import java.net.URLClassLoader;
import java.nio.charset.StandardCharsets;
import java.nio.file.Files;
import java.nio.file.Path;
import java.util.ArrayList;
import java.util.List;
import java.util.regex.Matcher;
import java.util.regex.Pattern;
import javax.tools.ToolProvider;

/** Compiles the Java of README.md and runs it: each call answers what the page says behind it. */
final class ReadmeTests {
    private static final Pattern BLOCK = Pattern.compile("```java\n(.*?)```", Pattern.DOTALL);
    private static final Pattern TOLD = Pattern.compile("(.+); // (-?\\d+|true|false|NoSuchElementException)(: .+)?");
    private static final int THROWN = Integer.MAX_VALUE;
    private final StringBuilder methods = new StringBuilder();
    private final StringBuilder lines = new StringBuilder();
    private final List<String> calls = new ArrayList<>();
    private final List<Integer> answers = new ArrayList<>();

    private ReadmeTests() {
    }

    static void runAll(String path) throws Exception {
        String page = new String(Files.readAllBytes(new File(path).toPath()), StandardCharsets.UTF_8);
        ReadmeTests tests = new ReadmeTests();
        Matcher block = BLOCK.matcher(page);
        while (block.find()) {
            tests.take(block.group(1));
        }
        tests.compare();
        tests.lookFor();
    }

    private void take(String block) {
        if (block.startsWith("static ")) {
            methods.append(block);
            return;
        }
        for (String line : block.split("\n")) {
            Matcher told = TOLD.matcher(line);
            if (told.matches()) {
                put(told.group(1), told.group(2));
            } else {
                Check.due("README: an answer that can be read in '" + line + "'", line.contains("//"), false);
                lines.append(line).append('\n');
            }
        }
    }

    private void put(String call, String answer) {
        boolean isThrowing = answer.startsWith("No");
        calls.add(call);
        answers.add(isThrowing ? THROWN : answer.equals("true") ? 1 : answer.equals("false") ? 0 : Integer.parseInt(answer));
        String asked = "all.add(number(" + call + "));\n";
        lines.append(!isThrowing ? asked
            : "try { " + asked + "} catch (java.util.NoSuchElementException e) { all.add(" + THROWN + "); }\n");
    }

    private void compare() throws Exception {
        List<?> got = run();
        Check.due("README: lines with an answer that were run", got.size(), answers.size());
        for (int i = 0; i < Math.min(got.size(), answers.size()); i++) {
            Check.due("README: " + calls.get(i), (Integer) got.get(i), answers.get(i));
        }
    }

    private List<?> run() throws Exception {
        Path folder = Files.createTempDirectory("readme");
        Path source = folder.resolve("ReadmePage.java");
        String text = "public class ReadmePage {\n" + methods
            + "static int number(int answer) { return answer; }\n"
            + "static int number(boolean answer) { return answer ? 1 : 0; }\n"
            + "public static java.util.List<Integer> run() {\n"
            + "java.util.List<Integer> all = new java.util.ArrayList<>();\n" + lines + "return all;\n}\n}\n";
        Files.write(source, text.getBytes(StandardCharsets.UTF_8));
        int wrong = ToolProvider.getSystemJavaCompiler().run(null, null, null, "-proc:none", "-cp",
            System.getProperty("java.class.path"), "-d", folder.toString(), source.toString());
        Check.due("README: its Java compiles", wrong, 0);
        List<?> got = List.of();
        try (URLClassLoader loader = new URLClassLoader(new URL[] {folder.toUri().toURL()}, ReadmeTests.class.getClassLoader())) {
            if (wrong == 0) {
                got = (List<?>) loader.loadClass("ReadmePage").getMethod("run").invoke(null);
            }
        }
        for (File file : folder.toFile().listFiles()) {
            file.delete();
        }
        folder.toFile().delete();
        return got;
    }

    /** How the class is used: a TOWN and a LAW by feed and text, calls that are refused, what house throws. */
    private void lookFor() {
        String all = String.join("\n", calls) + "\n";
        for (String call : new String[] {"feed(", "text(0)\n", "text(1)\n", "fault(0)\n", "fault(1)\n", "law(", "status(", "end("}) {
            Check.due("README: shows " + call.trim(), all.contains(call), true);
        }
        for (int answer : new int[] {SaintCarried.NONE, SaintCarried.HIDDEN, -2, THROWN}) {
            Check.due("README: shows an answer of " + answer, answers.contains(answer), true);
        }
    }
}
