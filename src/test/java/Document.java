import java.io.IOException;
import java.nio.charset.StandardCharsets;
import java.nio.file.Files;
import java.nio.file.Path;
import java.util.ArrayList;
import java.util.LinkedHashMap;
import java.util.List;
import java.util.Map;
import java.util.regex.Matcher;
import java.util.regex.Pattern;

/**
 * The text of ../shared/DOC.md, by sections, and which of its sentences a test has named: so
 * that no sentence is without a test, and none is tested that the document does not have.
 */
final class Document {
    private static final Pattern PROMISE = Pattern.compile("(?s)## (Promise \\d+): [^\n]*\n(.*?)(?=\n## )");
    private static final Pattern FACE = Pattern.compile("^`[^`]*`:");
    private static final Pattern HEADED = Pattern.compile(
        "Ahead of the calls ([^\n]*) the interface says: (---- [^\n]*)\\.\n");

    private static final List<String> MEMBERS = new ArrayList<>();
    private static final Map<String, List<String>> HEADS = new LinkedHashMap<>();

    /** What is left of each section when the sentences that were named are taken out. */
    private static final Map<String, StringBuilder> LEFT = new LinkedHashMap<>();
    private static String open = "";
    private static int lookedAtBefore;

    private Document() {
    }

    static void read(Path path) throws IOException {
        String text = Files.readString(path, StandardCharsets.UTF_8);
        String terms = "## Terms" + between(text, "## Terms", "Ahead of the calls `row`");
        keep("Terms", between(terms, "## Terms", "======== 1 "));
        for (int block = 1; block <= 4; block++) {
            keep(String.valueOf(block), between(terms + "======== 5 ", "======== " + block + " ",
                "======== " + (block + 1) + " "));
        }
        Matcher promise = PROMISE.matcher(text);
        while (promise.find()) {
            keep(promise.group(1), promise.group(2));
        }
        Checks.due("sections of the document", LEFT.size(), 5 + 27);
        readFace(text);
    }

    private static void readFace(String text) {
        between(text, "```java\n", "\n}\n```").lines().forEach(line -> MEMBERS.add(line.trim()));
        Matcher headed = HEADED.matcher(text);
        while (headed.find()) {
            HEADS.put(headed.group(2), List.of(headed.group(1).replace("`", "").split(", ")));
        }
    }

    /** The lines of the public face, the class first; none, if there is no document. */
    static List<String> members() {
        return MEMBERS;
    }

    /** What the interface says ahead of which calls. */
    static Map<String, List<String>> heads() {
        return HEADS;
    }

    private static String between(String text, String from, String to) {
        int begin = text.indexOf(from);
        int end = text.indexOf(to, begin + from.length());
        Checks.dueTrue("the document has " + from + " and then " + to, begin >= 0 && end >= 0);
        return begin >= 0 && end >= 0 ? text.substring(begin + from.length(), end) : "";
    }

    private static void keep(String section, String text) {
        String plain = text.replace("```text", " ").replace("```", " ").replaceAll("\\s+", " ").trim();
        LEFT.put(section, new StringBuilder(FACE.matcher(plain).replaceFirst("").trim()));
    }

    /** What is checked from here on is what the document says there. */
    static void says(String section, String sentence) {
        close();
        open = section + " <" + sentence + ">";
        Checks.about(open);
        if (LEFT.isEmpty()) {
            return;
        }
        StringBuilder left = LEFT.getOrDefault(section, new StringBuilder());
        int at = left.indexOf(sentence);
        if (at < 0) {
            Checks.dueTrue("the document says this there", false);
            return;
        }
        left.replace(at, at + sentence.length(), " | ");
    }

    /** Each sentence that is named has a test of its own. */
    private static void close() {
        if (!open.isEmpty() && Checks.lookedAtSoFar() == lookedAtBefore) {
            Checks.dueTrue("a call was looked at", false);
        }
        open = "";
        Checks.about("");
        lookedAtBefore = Checks.lookedAtSoFar();
    }

    static void allIsNamed() {
        close();
        for (Map.Entry<String, StringBuilder> section : LEFT.entrySet()) {
            String left = section.getValue().toString();
            Checks.dueTrue(section.getKey() + ": without a test is <" + left.replaceAll("[ |]+", " ").trim() + ">",
                left.replaceAll("[ |]+", "").isEmpty());
        }
    }
}
