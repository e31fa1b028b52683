import java.io.File;
import java.io.IOException;
import java.nio.file.Files;
import java.nio.file.Path;
import java.util.ArrayList;
import java.util.List;
import java.util.regex.Matcher;
import java.util.regex.Pattern;
import java.util.stream.Stream;

/**
 * README.md: its program is compiled and run as it tells, and prints what it tells; each call,
 * test and answer that there is has a place in it. The first argument is the way to the program,
 * the third the way to README.md.
 */
public final class ReadmeTest {
    private static final Pattern BLOCK = Pattern.compile("(?ms)^```(\\w*)\n(.*?)^```$");
    private static final Pattern PUBLIC = Pattern.compile("public (?:long|int) (\\w+)\\(([^)]*)\\)");
    private static final Pattern KIND = Pattern.compile(
        "(?m)^\\| (\\d) [A-Z]+ \\| [^|]* \\| ([\\d, ]+) \\| BODY (\\d+) \\| BODY (\\d+) \\|$");
    private static final Pattern SHOWN = Pattern.compile("(?m)^(\\w+)\\(");

    private ReadmeTest() {
    }

    public static void main(String[] args) throws Exception {
        if (args.length < 3) {
            Checks.dueTrue("the ways to the program and to README.md are told", false);
            Checks.end();
        }
        Path program = Path.of(args[0]);
        String readme = Files.readString(Path.of(args[2]));
        firstProgram(program, readme);
        textOfTongue(readme);
        callsAreTold(Files.readString(program), readme);
        testsAreTold(Path.of(args[2]).toAbsolutePath().resolveSibling("src/test/java"), readme);
        refusalsAreTold(readme);
        kindsAreTold(readme);
        Checks.end();
    }

    /** What stands in the blocks of one language. */
    private static List<String> blocks(String readme, String language) {
        List<String> found = new ArrayList<>();
        Matcher m = BLOCK.matcher(readme);
        while (m.find()) {
            if (m.group(1).equals(language)) {
                found.add(m.group(2));
            }
        }
        return found;
    }

    private static String block(String readme, String language, int which) {
        List<String> found = blocks(readme, language);
        Checks.dueTrue("README.md has block " + which + " of " + language, which < found.size());
        return which < found.size() ? found.get(which) : "";
    }

    private static void firstProgram(Path program, String readme) throws Exception {
        Path place = Files.createTempDirectory("readme");
        try {
            Path copy = place.resolve("src/main/java/SaidByTimes.java");
            Files.createDirectories(copy.getParent());
            Files.copy(program, copy);
            Files.writeString(place.resolve("First.java"), block(readme, "java", 0));
            String printed = printedBy(place, block(readme, "sh", 0));
            Checks.dueText("what the first program prints", printed, block(readme, "text", 0));
            Matcher m = SHOWN.matcher(printed);
            Checks.dueTrue("the first program shows answers", m.find());
        } finally {
            remove(place);
        }
    }

    private static String printedBy(Path place, String commands) throws IOException, InterruptedException {
        Process run = new ProcessBuilder("sh", "-e", "-c", commands)
            .directory(place.toFile()).redirectError(ProcessBuilder.Redirect.INHERIT).start();
        String printed = new String(run.getInputStream().readAllBytes());
        Checks.due("exit code of: " + commands, run.waitFor(), 0);
        return printed;
    }

    private static void remove(Path place) throws IOException {
        try (Stream<Path> all = Files.walk(place)) {
            List<Path> inside = new ArrayList<>(all.toList());
            for (int i = inside.size() - 1; i >= 0; i--) {
                File one = inside.get(i).toFile();
                if (!one.delete()) {
                    System.out.println("left behind: " + one);
                }
            }
        }
    }

    private static void textOfTongue(String readme) {
        SaidByTimes x = new SaidByTimes();
        Checks.due("the text of a TONGUE in README.md", Checks.tongue(x, block(readme, "text", 1)), 3);
        Checks.due("its rules", x.count(2), 2);
        Checks.due("its pairs", x.count(3), 1);
    }

    private static void callsAreTold(String source, String readme) {
        int calls = 0;
        for (Matcher m = PUBLIC.matcher(source); m.find(); calls++) {
            String names = m.group(2).replaceAll("(int|long) ", "");
            String call = "\n| `" + m.group(1) + "(" + names + ")` | ";
            Checks.dueTrue("README.md tells" + call.strip(), readme.contains(call));
        }
        Checks.due("calls in all", calls, 26);
        long told = readme.lines().filter(line -> line.matches("\\| `\\w+\\([a-z, ]*\\)` \\| .*")
            && !line.contains("the first fault in the text")).count();
        Checks.due("calls that README.md tells", told, calls);
    }

    private static void testsAreTold(Path tests, String readme) throws IOException {
        List<String> names;
        try (Stream<Path> files = Files.list(tests)) {
            names = files.map(file -> file.getFileName().toString())
                .filter(name -> name.endsWith("Test.java")).map(name -> name.replace(".java", "")).toList();
        }
        for (String name : names) {
            Checks.dueTrue("README.md tells of " + name, readme.contains("\n| `" + name + "` | "));
        }
        long told = readme.lines().filter(line -> line.matches("\\| `\\w+Test` \\| .*")).count();
        Checks.due("tests that README.md tells of", told, names.size());
    }

    private static void refusalsAreTold(String readme) {
        long[] answers = {Checks.BAD, Checks.STATE, Checks.FULL, Checks.NULL, Checks.PLACE, Checks.KIND,
            Checks.SIZE, Checks.STORE};
        String[] names = {"BAD", "STATE", "FULL", "NULL", "PLACE", "KIND", "SIZE", "STORE"};
        for (int i = 0; i < answers.length; i++) {
            String told = "\n| `NOT - " + (Checks.NOT - answers[i]) + "` | " + names[i] + " | ";
            Checks.dueTrue("README.md tells" + told.strip(), readme.contains(told));
        }
    }

    private static void kindsAreTold(String readme) {
        // By KINDS: THINGS 0 and 1 are 2 and 3, and may not stand together.
        long[] sayings = {0, 4, 2, 6, 5, 8};
        SaidByTimes x = Checks.speaking("thing 2 0; thing 3 0; pair 0 1;");
        int kinds = 0;
        for (Matcher m = KIND.matcher(readme); m.find(); kinds++) {
            int told = Integer.parseInt(m.group(1));
            x.put(0, told < sayings.length ? sayings[told] : 1);
            Checks.due("README.md tells KIND " + told, x.kind(0), told);
            List<String> is = new ArrayList<>(List.of(m.group(2).split(", ")));
            is.add(m.group(1));
            for (int kind = 0; kind < 6; kind++) {
                long due = is.contains(String.valueOf(kind)) ? 0 : Checks.KIND;
                Checks.due("README.md tells KIND " + told + " as " + kind, x.as(0, kind), due);
            }
            for (int what = 0; what < 2; what++) {
                x.ask(0, what);
                Checks.due("README.md tells what begins of KIND " + told + ", ask " + what,
                    x.trace(0), Integer.parseInt(m.group(3 + what)));
            }
        }
        Checks.due("KINDS that README.md tells", kinds, 5);
    }
}
