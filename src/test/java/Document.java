import java.io.IOException;
import java.nio.charset.StandardCharsets;
import java.nio.file.Files;
import java.nio.file.Path;
import java.util.ArrayList;
import java.util.List;
import java.util.regex.Matcher;
import java.util.regex.Pattern;

/** The document DOC.md, as far as tests look things up in it. */
final class Document {
    static final Path PATH = Path.of("../shared/DOC.md");
    static final int PROMISES = 36;

    private final String text;
    private final String plain;

    Document() throws IOException {
        text = Files.exists(PATH) ? Files.readString(PATH, StandardCharsets.UTF_8) : "";
        plain = text.replaceAll("```(text|java)?", " ").replaceAll("\\s+", " ");
        if (!isHere()) {
            System.out.println(PATH + " is not here, so nothing is looked up in it");
        }
    }

    /** A checkout may come without it: then tests hold answers against what they say themselves. */
    boolean isHere() {
        return !text.isEmpty();
    }

    /** In one line: the document's own line ends and fences mean nothing. */
    String plain() {
        return plain;
    }

    /** Where a promise begins, with its heading. */
    int beginOf(int promise) {
        return plain.indexOf("## Promise " + promise + ":");
    }

    int endOf(int promise) {
        int end = plain.indexOf(" ## ", beginOf(promise) + 1);
        return end < 0 ? plain.length() : end;
    }

    String promise(int number) {
        return plain.substring(beginOf(number), endOf(number));
    }

    String terms() {
        return plain.substring(0, beginOf(1));
    }

    /** A promise without its heading and its call's head. */
    String wordsOf(int promise) {
        return promise(promise).replaceFirst("^.*?`: ", "");
    }

    /** A promise's call as it would be written: its name and the names of what it takes. */
    String callOf(int promise) {
        Matcher head = Pattern.compile("`(?:int )?(\\w+)\\(([^)]*)\\)`").matcher(promise(promise));
        if (!head.find()) {
            return "";
        }
        List<String> names = new ArrayList<>();
        for (String parameter : head.group(2).split(", ")) {
            names.add(parameter.replaceFirst("^int ", ""));
        }
        return head.group(1) + "(" + String.join(", ", names) + ")";
    }

    /** The public face, as Java. */
    String face() {
        Matcher block = Pattern.compile("(?s)## The public face\\s+```java\n(.*?)```").matcher(text);
        return block.find() ? block.group(1) : "";
    }
}
