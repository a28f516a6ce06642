import java.io.IOException;
import java.nio.charset.StandardCharsets;
import java.nio.file.Files;
import java.nio.file.Path;
import java.util.TreeSet;
import java.util.regex.Matcher;
import java.util.regex.Pattern;

/**
 * Every word of the terms and of the promises stands in a sentence that a test quotes, as promise(n, "..") or
 * terms(".."). So a sentence that is new or changed in the document fails here until it has a test.
 */
public final class DocumentTest {
    private static final Check c = new Check("DocumentTest");
    private static final Pattern QUOTE = Pattern.compile(
        "\\b(?:promise\\((\\d+),|terms\\()\\s*((?:\"(?:[^\"\\\\]|\\\\.)*\"\\s*\\+?\\s*)+)\\)");
    private static final Pattern TEXT = Pattern.compile("\"((?:[^\"\\\\]|\\\\.)*)\"");
    /** What says nothing that a call could break, or is tested by LanguageTest: heads, the face, and its parts. */
    private static final Pattern NO_SENTENCE = Pattern.compile("======== \\d|; what later calls answer is free\\."
        + "|## The public face .*?## Terms"
        + "|Ahead of the calls .*?---- (?:kinds, planes, time|parts|gap law, orders|contracts|coins)\\."
        + "|## Promise \\d+: [^`]*`[^`]*`:");

    public static void main(String[] args) throws IOException {
        Document document = new Document();
        if (!document.isHere()) {
            return;
        }
        boolean[] quoted = new boolean[document.plain().length()];
        TreeSet<Integer> promises = new TreeSet<>();
        try (var files = Files.list(Path.of("src/test/java"))) {
            for (Path file : files.sorted().toList()) {
                mark(document, Files.readString(file, StandardCharsets.UTF_8), quoted, promises);
            }
        }
        for (int promise = 1; promise <= Document.PROMISES; promise++) {
            c.is("promise " + promise + " is quoted", promises.contains(promise));
        }
        Matcher skipped = NO_SENTENCE.matcher(document.plain());
        while (skipped.find()) {
            fill(quoted, skipped.start(), skipped.end());
        }
        int first = document.plain().indexOf("DAY is a count"), last = document.endOf(Document.PROMISES);
        c.is("the document is as long as it was", first > 0 && last - first > 10000);
        unquoted(document.plain(), quoted, first, last);
        c.end();
    }

    private static void mark(Document document, String source, boolean[] quoted, TreeSet<Integer> promises) {
        Matcher quote = QUOTE.matcher(source);
        while (quote.find()) {
            StringBuilder words = new StringBuilder();
            Matcher text = TEXT.matcher(quote.group(2));
            while (text.find()) {
                words.append(text.group(1).replace("\\\"", "\""));
            }
            int promise = quote.group(1) == null ? 0 : Integer.parseInt(quote.group(1));
            int from = promise == 0 ? 0 : document.beginOf(promise);
            int at = document.plain().indexOf(words.toString(), Math.max(0, from));
            c.is("the document says: " + words, at >= 0);
            fill(quoted, at, at + words.length());
            promises.add(promise);
        }
    }

    private static void fill(boolean[] quoted, int from, int to) {
        for (int i = Math.max(0, from); i < to; i++) {
            quoted[i] = true;
        }
    }

    private static void unquoted(String text, boolean[] quoted, int first, int last) {
        StringBuilder words = new StringBuilder();
        for (int i = first; i <= last; i++) {
            if (i < last && !quoted[i]) {
                words.append(text.charAt(i));
            } else if (words.length() > 0) {
                c.is("a test quotes: " + words, words.toString().matches("\\W*"));
                words.setLength(0);
            }
        }
    }
}
