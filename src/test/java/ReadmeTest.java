import java.io.IOException;
import java.lang.reflect.Method;
import java.lang.reflect.Modifier;
import java.net.URL;
import java.net.URLClassLoader;
import java.nio.file.Files;
import java.nio.file.Path;
import java.util.ArrayList;
import java.util.HashSet;
import java.util.List;
import java.util.Set;
import java.util.concurrent.Callable;
import java.util.regex.Matcher;
import java.util.regex.Pattern;
import java.util.stream.Stream;

/** The calls in README.md compile as they stand there and have the answers behind them; no call is left out. */
public final class ReadmeTest {
    private static final String MAKES = "Twoshadows x = new Twoshadows();";
    private static final Pattern BLOCK = Pattern.compile("```java\n(.*?)```", Pattern.DOTALL);
    private static final Pattern CALL = Pattern.compile(
        "(x\\.(\\w+)\\(.*?\\)); +// (throws \\w+|\"[^\"]*\"|true|false|-?\\d+(?:\\.\\d+)?)(?![\\w.]).*");
    private static final int MOST_CALLS = 512;

    private final List<List<String>> calls = new ArrayList<>();
    private final List<List<String>> answers = new ArrayList<>();
    private final Set<String> names = new HashSet<>();

    private ReadmeTest() {
    }

    public static void main(String[] args) throws Exception {
        String readme = Files.readString(Path.of("README.md"));
        ReadmeTest test = new ReadmeTest();
        test.readBlocks(readme);
        test.runBlocks();
        test.eachMethodIsShown();
        testsAreTold(readme);
        Check.end("ReadmeTest");
    }

    private void readBlocks(String readme) {
        Matcher block = BLOCK.matcher(readme);
        while (block.find()) {
            calls.add(new ArrayList<>());
            answers.add(new ArrayList<>());
            String[] lines = block.group(1).split("\n");
            Check.same("README makes an object first", lines[0].startsWith(MAKES), true);
            for (int number = 1; number < lines.length; number++) {
                readCall(lines[number]);
            }
            Check.same("README keeps to 512 calls on an object", lines.length - 1 <= MOST_CALLS, true);
        }
        Check.same("README has blocks", calls.isEmpty(), false);
    }

    private void readCall(String line) {
        Matcher call = CALL.matcher(line);
        Check.same("README tells the answer of: " + line, call.matches(), true);
        if (call.matches()) {
            calls.get(calls.size() - 1).add(call.group(1));
            answers.get(answers.size() - 1).add(call.group(3).replace("throws ", "throws.").replace("\"", ""));
            names.add(call.group(2));
        }
    }

    private void runBlocks() throws Exception {
        Path folder = Files.createTempDirectory("readme");
        Path source = Files.writeString(folder.resolve("Readme.java"), program());
        int ended = new ProcessBuilder("javac", "-cp", System.getProperty("java.class.path"), source.toString())
            .inheritIO().start().waitFor();
        Check.same("README compiles", ended, 0);
        if (ended == 0) {
            try (URLClassLoader loader = new URLClassLoader(new URL[] {folder.toUri().toURL()})) {
                runBlocks(loader.loadClass("Readme"));
            }
        }
        remove(folder);
    }

    /** A class with a method for each block, which hands out its calls. */
    private String program() {
        StringBuilder text = new StringBuilder("public final class Readme {\n");
        for (int block = 0; block < calls.size(); block++) {
            text.append("public static Object block").append(block).append("() {\n").append(MAKES)
                .append("\nreturn new java.util.concurrent.Callable<?>[] {\n");
            for (String call : calls.get(block)) {
                text.append("() -> ").append(call).append(",\n");
            }
            text.append("};\n}\n");
        }
        return text.append("}\n").toString();
    }

    private void runBlocks(Class<?> readme) throws Exception {
        for (int block = 0; block < calls.size(); block++) {
            Callable<?>[] made = (Callable<?>[]) readme.getMethod("block" + block).invoke(null);
            for (int number = 0; number < made.length; number++) {
                Check.same("README, block " + block + ", " + calls.get(block).get(number),
                    Check.answer(made[number]), answers.get(block).get(number));
            }
        }
    }

    private static void remove(Path folder) throws IOException {
        try (Stream<Path> files = Files.list(folder)) {
            for (Path file : files.toList()) {
                Files.delete(file);
            }
        }
        Files.delete(folder);
    }

    private void eachMethodIsShown() {
        for (Method one : Twoshadows.class.getDeclaredMethods()) {
            if (Modifier.isPublic(one.getModifiers())) {
                Check.same("README shows " + one.getName(), names.contains(one.getName()), true);
            }
        }
    }

    private static void testsAreTold(String readme) throws IOException {
        Check.same("README tells how to run the tests", readme.contains("\n    .ci/run\n"), true);
        try (Stream<Path> files = Files.list(Path.of("src/test/java"))) {
            for (Path file : files.toList()) {
                String name = file.getFileName().toString().replace(".java", "");
                if (name.endsWith("Test") || name.endsWith("Edges")) {
                    Check.same("README tells of " + name, readme.contains("`" + name + "`"), true);
                }
            }
        }
    }
}
