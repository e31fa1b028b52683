import java.util.ArrayList;
import java.util.List;
import java.util.regex.Matcher;
import java.util.regex.Pattern;

/** The document ahead of its Terms: the public face, and what stands ahead of which calls. */
final class FaceOfProgram {
    private static final Pattern PUBLIC = Pattern.compile("(?m)^(?: {4})?(public [^\n]*?)(?: \\{|;)$");
    private static final Pattern HEAD_OR_CALL = Pattern.compile(
        "(?m)^ {4}(?:// (---- [^\n]*)|(public|private) [^\n]*?(\\w+)\\([^\n]*\\) \\{)$");

    private FaceOfProgram() {
    }

    static void all(String source) {
        if (!Document.members().isEmpty()) {
            membersAreTheDocuments(source);
            headsAreTheDocuments(source);
        }
        manyCalls();
    }

    private static void membersAreTheDocuments(String source) {
        List<String> has = new ArrayList<>();
        for (Matcher m = PUBLIC.matcher(source); m.find();) {
            has.add(m.group(1));
        }
        List<String> due = Document.members().stream().map(line -> line.replaceAll("( \\{|;)$", "")).toList();
        Checks.dueText("the public face", String.join("\n", has), String.join("\n", due));
    }

    private static void headsAreTheDocuments(String source) {
        for (String head : Document.heads().keySet()) {
            Checks.dueText("the calls behind " + head, callsBehind(head, source).toString(),
                Document.heads().get(head).toString());
        }
        Checks.due("heads that the interface says", Document.heads().size(), 4);
    }

    private static List<String> callsBehind(String head, String source) {
        List<String> calls = new ArrayList<>();
        String latest = "";
        for (Matcher m = HEAD_OR_CALL.matcher(source); m.find();) {
            if (m.group(1) != null) {
                latest = m.group(1);
            } else if (latest.equals(head) && m.group(2).equals("public")) {
                calls.add(m.group(3));
            }
        }
        return calls;
    }

    /** An object is used for at most 512 calls: here for all of them, beside a new one. */
    private static void manyCalls() {
        SaidByTimes x = Checks.speaking("thing 2 0;");
        for (int call = 3; call < 512; call++) {
            x.put(call % 8, call);
        }
        Checks.due("the 512th call", x.count(4), 8);
        Checks.due("the first call of a new object", new SaidByTimes().count(4), 0);
    }
}
