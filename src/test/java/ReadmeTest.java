import java.io.IOException;
import java.net.URL;
import java.net.URLClassLoader;
import java.nio.charset.StandardCharsets;
import java.nio.file.Files;
import java.nio.file.Path;
import java.util.ArrayList;
import java.util.Arrays;
import java.util.List;
import java.util.TreeSet;
import java.util.regex.Matcher;
import java.util.regex.Pattern;
import javax.tools.JavaCompiler;
import javax.tools.ToolProvider;

/** README.md tells every call as the document does, its example answers what it says, and it names every test. */
public final class ReadmeTest {
    private static final Check c = new Check("ReadmeTest");
    private static final Pattern ROW = Pattern.compile(
        "(?m)^\\| `(\\w+\\([^)]*\\))` \\| (.*?) ?\\| (.*?) ?\\| (.*?) ?\\| (\\d+)"
        + "(?:; sections? [1-5](?:, [1-5])?)? \\|$");
    private static final String[] REFUSALS = {"BAD", "NOT", "FULL", "BIG", "VOID"};

    public static void main(String[] args) throws IOException, ReflectiveOperationException {
        String readme = Files.readString(Path.of("README.md"), StandardCharsets.UTF_8);
        Document document = new Document();
        if (document.isHere()) {
            everyCall(readme, document);
        }
        constants(readme);
        example(readme);
        everyTest(readme);
        c.end();
    }

    private static void everyCall(String readme, Document document) {
        Matcher row = ROW.matcher(readme);
        int promise = 0;
        while (row.find()) {
            promise++;
            c.is("row " + promise + " is " + row.group(1), promise <= Document.PROMISES
                && row.group(1).equals(document.callOf(promise)) && row.group(5).equals("" + promise));
            c.is(row.group(1) + " says what it answers", !row.group(3).isEmpty());
            c.is(row.group(1) + " is refused as in the document, not with " + row.group(4),
                promise <= Document.PROMISES && told(row.group(4)).equals(refusals(document.wordsOf(promise))));
            for (String answer : told(row.group(2))) {
                c.is(row.group(1) + " tells more of an answer that it has: " + answer,
                    answer.equals("VOID") || row.group(4).contains(answer));
            }
        }
        c.due("rows of calls", promise, Document.PROMISES);
    }

    private static TreeSet<String> told(String cell) {
        TreeSet<String> all = new TreeSet<>();
        Matcher name = Pattern.compile("`(\\w+)`").matcher(cell);
        while (name.find()) {
            if (Arrays.asList(REFUSALS).contains(name.group(1))) {
                all.add(name.group(1));
            }
        }
        return all;
    }

    private static TreeSet<String> refusals(String words) {
        TreeSet<String> all = new TreeSet<>();
        for (String name : REFUSALS) {
            if (Pattern.compile("\\b" + name + "\\b(?! never)").matcher(words).find()) {
                all.add(name);
            }
        }
        if (words.contains("VOID: BAD")) {
            all.remove("BAD");
        }
        return all;
    }

    private static void constants(String readme) throws ReflectiveOperationException {
        for (String name : REFUSALS) {
            int value = PlanesBack.class.getField(name).getInt(null);
            c.is(name + " is told as " + value, readme.contains("| `" + name + "` | " + value + " |"));
        }
    }

    /** The blocks of Java are made one program, in which each told answer is looked at. */
    private static void example(String readme) throws IOException, ReflectiveOperationException {
        StringBuilder methods = new StringBuilder(), calls = new StringBuilder();
        Matcher block = Pattern.compile("(?s)```java\n(.*?)```").matcher(readme);
        int answers = 0;
        while (block.find()) {
            if (block.group(1).startsWith("static ")) {
                methods.append(block.group(1));
            } else {
                for (String line : block.group(1).split("\n")) {
                    Matcher told = Pattern.compile("(?:int (\\w+) = )?(.*?); // (-?\\d+)\\b.*").matcher(line);
                    boolean asks = told.matches();
                    answers += asks ? 1 : 0;
                    calls.append(asks ? looked(told.group(1), told.group(2), told.group(3)) : line).append('\n');
                }
            }
        }
        c.is("answers in the example", answers > 20);
        run("public final class Example {\n" + methods + "public static void tell(java.util.List<Object> all) {\n"
            + calls + "}\n}\n", answers);
    }

    private static String looked(String name, String call, String answer) {
        String value = name == null ? "" + call : name;
        String first = name == null ? "" : "int " + name + " = " + call + ";\n";
        return first + "java.util.Collections.addAll(all, \"" + call.replace("\"", "\\\"") + "\", " + value + ", "
            + answer + ");";
    }

    private static void run(String source, int answers) throws IOException, ReflectiveOperationException {
        Path folder = Files.createTempDirectory("readme");
        Path file = folder.resolve("Example.java");
        Files.writeString(file, source);
        JavaCompiler compiler = ToolProvider.getSystemJavaCompiler();
        int code = compiler.run(null, null, null, "-cp", System.getProperty("java.class.path"), "-d", folder.toString(),
            file.toString());
        c.due("the example compiles", code, 0);
        List<Object> all = new ArrayList<>();
        if (code == 0) {
            try (URLClassLoader loader = new URLClassLoader(new URL[] {folder.toUri().toURL()})) {
                loader.loadClass("Example").getMethod("tell", List.class).invoke(null, all);
            }
        }
        c.due("answers looked at", all.size(), 3 * answers);
        for (int i = 0; i + 2 < all.size(); i += 3) {
            c.due("example: " + all.get(i), (Integer) all.get(i + 1), (Integer) all.get(i + 2));
        }
        for (String left : new String[] {"Example.class", "Example.java", ""}) {
            Files.deleteIfExists(folder.resolve(left));
        }
    }

    private static void everyTest(String readme) throws IOException {
        try (var files = Files.list(Path.of("src/test/java"))) {
            for (Path file : files.sorted().toList()) {
                String name = file.getFileName().toString().replace(".java", "");
                c.is("README.md names " + name, Pattern.compile("`" + name + "`").matcher(readme).find());
            }
        }
        c.is("README.md says how to run them", readme.contains("    .ci/run\n"));
    }
}
