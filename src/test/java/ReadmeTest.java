import java.io.IOException;
import java.nio.charset.StandardCharsets;
import java.nio.file.DirectoryStream;
import java.nio.file.Files;
import java.nio.file.Path;
import java.nio.file.StandardCopyOption;
import java.util.ArrayList;
import java.util.List;
import java.util.Set;
import java.util.TreeMap;
import java.util.TreeSet;
import java.util.regex.Matcher;
import java.util.regex.Pattern;

/** Whether README.md holds: its example and its commands are run as they stand there, in a folder of their own. */
public final class ReadmeTest {
    private static final Path ROOT = Path.of(System.getProperty("rockingriders.root", "."));
    private static final Path FOLDER = ROOT.resolve("build").resolve("readme");
    private static final String PRINTS = "System.out.println(";
    private static final Pattern NOTED = Pattern.compile(Pattern.quote(PRINTS) + ".*\\);\\s*// ([^: ]+): \\S.*");
    private static final Pattern CALLED = Pattern.compile("\\bx\\.(\\w+)\\(");
    private static final Pattern PROMISE = Pattern.compile("## Promise (\\d+): (\\w+)\n");
    private static final Pattern PART = Pattern.compile("\\| (\\d [a-z, ]+) \\| (\\d+) to (\\d+) \\| (.*) \\|");
    private static final Pattern TESTS = Pattern.compile("\\| ((?:`\\w+Test`(?:, )?)+) \\| .* \\|");
    private static final Pattern NAME = Pattern.compile("`(\\w+)`");

    private final String readme;

    private ReadmeTest(String text) {
        readme = text;
    }

    public static void main(String[] args) throws IOException, InterruptedException {
        Path document = Path.of(System.getProperty("rockingriders.document", "../shared/DOC.md"));
        ReadmeTest page = new ReadmeTest(Files.readString(ROOT.resolve("README.md")));
        page.examples();
        page.commands();
        page.answers();
        page.parts(Files.readString(document));
        page.tests();
        Checks.end();
    }

    private List<String> blocks(String kind) {
        List<String> blocks = new ArrayList<>();
        Matcher m = Pattern.compile("\n```" + kind + "\n(.*?\n)```\n", Pattern.DOTALL).matcher(readme);
        while (m.find()) {
            blocks.add(m.group(1));
        }
        return blocks;
    }

    /** What the example notes behind its calls, line by line; each line that prints must note it. */
    private static List<String> noted(String example) {
        List<String> notes = new ArrayList<>();
        for (String line : example.split("\n")) {
            if (line.contains(PRINTS)) {
                Matcher m = NOTED.matcher(line.trim());
                boolean isNoted = m.matches();
                Checks.holds("the README's example notes an answer: " + line.trim(), isNoted);
                notes.add(isNoted ? m.group(1) : "");
            }
        }
        return notes;
    }

    private void examples() throws IOException {
        List<String> examples = blocks("java");
        Checks.due("examples of the README", examples.size(), 1);
        Files.createDirectories(FOLDER);
        for (String example : examples) {
            Files.writeString(FOLDER.resolve("Example.java"), example);
            Matcher m = CALLED.matcher(example);
            Set<String> calls = new TreeSet<>();
            while (m.find()) {
                calls.add(m.group(1));
            }
            Checks.holds("the example shows calls of all parts: " + calls, calls.containsAll(
                Set.of("sheet", "put", "nursery", "shut", "minutes", "ofRider", "afternoon", "comes", "reading")));
        }
    }

    private static void copySources(String folder) throws IOException {
        Path to = FOLDER.resolve(folder);
        Files.createDirectories(to);
        try (DirectoryStream<Path> files = Files.newDirectoryStream(ROOT.resolve(folder), "*.java")) {
            for (Path file : files) {
                Files.copy(file, to.resolve(file.getFileName()), StandardCopyOption.REPLACE_EXISTING);
            }
        }
    }

    /** .ci/run itself is not run from here, for it runs this test. */
    private void commands() throws IOException, InterruptedException {
        copySources("src/main/java");
        copySources("src/test/java");
        int examples = 0;
        int singles = 0;
        int all = 0;
        for (String commands : blocks("sh")) {
            if (commands.equals(".ci/run\n")) {
                all++;
                Checks.holds(".ci/run is there and can be run", Files.isExecutable(ROOT.resolve(".ci/run")));
            } else if (commands.contains("Example")) {
                examples++;
                String want = String.join("\n", noted(blocks("java").get(0))) + "\n";
                String got = answered(commands);
                Checks.holds("the README's example answers as it notes:\n" + besides(got, want), got.equals(want));
            } else {
                singles++;
                String got = answered(commands);
                Checks.holds("a single test is run: " + got, got.matches("\\d+ right, 0 wrong\n"));
            }
        }
        Checks.due("commands for all tests", all, 1);
        Checks.due("commands for the example", examples, 1);
        Checks.due("commands for a single test", singles, 1);
    }

    /** What commands print, run in a folder where all stands as in the project's; they must end well. */
    private static String answered(String commands) throws IOException, InterruptedException {
        ProcessBuilder b = new ProcessBuilder("bash", "-ec", commands);
        b.directory(FOLDER.toFile());
        // What the machine itself says of its options must not be taken for an answer.
        b.redirectError(ProcessBuilder.Redirect.INHERIT);
        Process p = b.start();
        p.getOutputStream().close();
        String got = new String(p.getInputStream().readAllBytes(), StandardCharsets.UTF_8);
        Checks.due("exit code of " + commands + got, p.waitFor(), 0);
        return got.replace("\r\n", "\n");
    }

    private static String besides(String got, String want) {
        String[] ours = got.split("\n");
        String[] theirs = want.split("\n");
        StringBuilder b = new StringBuilder();
        for (int i = 0; i < Math.max(ours.length, theirs.length); i++) {
            String one = i < ours.length ? ours[i] : "nothing";
            String two = i < theirs.length ? theirs[i] : "nothing";
            b.append(one.equals(two) ? "" : "line " + i + " prints " + one + ", noted is " + two + "\n");
        }
        return b.toString();
    }

    private void answers() {
        String[] rows = {"| -1 `UNKNOWN` |", "| -2 `OUTSIDE` |", "| -3 `STATE` |", "| -4 `FULL` |", "| -9 `NONE` |",
            "| -11, -12, -13, -14 | a fault: NULL, CAST, INDEX, SIZE;", "| `LOST` |"};
        for (String row : rows) {
            Checks.holds("the README has the row " + row, readme.contains("\n" + row));
        }
        Checks.due("UNKNOWN", RockingRiders.UNKNOWN, -1);
        Checks.due("OUTSIDE", RockingRiders.OUTSIDE, -2);
        Checks.due("STATE", RockingRiders.STATE, -3);
        Checks.due("FULL", RockingRiders.FULL, -4);
        Checks.due("NONE", RockingRiders.NONE, -9);
    }

    /** The table of the calls has each promise of the document but the first, in its order. */
    private void parts(String document) {
        TreeMap<Integer, String> due = new TreeMap<>();
        Matcher promise = PROMISE.matcher(document);
        while (promise.find()) {
            due.put(Integer.parseInt(promise.group(1)), promise.group(2));
        }
        int next = 2;
        Matcher part = PART.matcher(readme);
        while (part.find()) {
            Checks.holds("the document has the part " + part.group(1), document.contains("---- " + part.group(1) + "."));
            Checks.due("first promise of " + part.group(1), Integer.parseInt(part.group(2)), next);
            for (String name : names(part.group(4))) {
                Checks.holds("promise " + next + " is " + name, name.equals(due.get(next)));
                next++;
            }
            Checks.due("last promise of " + part.group(1), Integer.parseInt(part.group(3)), next - 1);
        }
        Checks.due("promises in the README's table", next - 1, due.isEmpty() ? 0 : due.lastKey());
    }

    private static List<String> names(String cell) {
        List<String> names = new ArrayList<>();
        Matcher m = NAME.matcher(cell);
        while (m.find()) {
            names.add(m.group(1));
        }
        return names;
    }

    private void tests() throws IOException {
        Set<String> told = new TreeSet<>();
        Matcher row = TESTS.matcher(readme);
        while (row.find()) {
            told.addAll(names(row.group(1)));
        }
        Set<String> there = new TreeSet<>();
        try (DirectoryStream<Path> files = Files.newDirectoryStream(ROOT.resolve("src/test/java"), "*Test.java")) {
            for (Path file : files) {
                there.add(file.getFileName().toString().replace(".java", ""));
            }
        }
        Checks.holds("the README tells of the tests " + there + ", and tells " + told, told.equals(there));
    }
}
