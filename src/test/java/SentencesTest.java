import java.io.IOException;
import java.nio.file.DirectoryStream;
import java.nio.file.Files;
import java.nio.file.Path;
import java.util.ArrayList;
import java.util.List;
import java.util.regex.Matcher;
import java.util.regex.Pattern;

/** Whether the tests of single sentences quote the document as it stands, and leave no word of it out. */
public final class SentencesTest {
    private static final int PROMISES = 32;
    private static final Pattern COMMENTED =
        Pattern.compile("/\\*\\*((?:(?!\\*/).)*)\\*/\\s+private static void (promise(\\d\\d)\\w*)\\(", Pattern.DOTALL);
    private static final Pattern METHOD = Pattern.compile("static void (promise\\w*)\\(");
    private static final Pattern QUOTED =
        Pattern.compile("Promise (\\d+)(?:, (Terms|What it is))?: (\"[^\"]*\"(?: and \"[^\"]*\")*)");
    private static final Pattern QUOTE = Pattern.compile("\"([^\"]*)\"");

    /** A part of the document, and which of its signs are quoted by a test. */
    private static final class Part {
        final String name;
        final String text;
        final boolean[] quoted;

        Part(String itsName, String itsText) {
            name = itsName;
            text = folded(itsText);
            quoted = new boolean[text.length()];
        }

        void quotes(String quote, String test) {
            int at = text.indexOf(quote);
            Checks.holds(test + ": \"" + quote + "\" stands in " + name, at >= 0);
            while (at >= 0) {
                for (int i = at; i < at + quote.length(); i++) {
                    quoted[i] = true;
                }
                at = text.indexOf(quote, at + 1);
            }
        }

        void leavesNothingOut() {
            StringBuilder out = new StringBuilder();
            for (int i = 0; i < text.length(); i++) {
                boolean isOut = !quoted[i] && Character.isLetterOrDigit(text.charAt(i));
                out.append(isOut ? text.charAt(i) : ' ');
            }
            Checks.due("left out of " + name + ": " + folded(out.toString()), folded(out.toString()).length(), 0);
        }
    }

    /** It says what the class is about; one of its sentences names a boundary. */
    private final Part whatItIs;
    private final Part terms;
    private final List<Part> promises = new ArrayList<>();

    private SentencesTest(String document) {
        whatItIs = new Part("What it is", between(document, "\n## What it is\n", "\n## "));
        String told = between(document, "\n## Terms\n", "\nAhead of the calls");
        terms = new Part("Terms", told.replaceAll("```(text)?|==== \\d ", ""));
        for (int p = 1; p <= PROMISES; p++) {
            String section = between(document, "\n## Promise " + p + ": ", "\n## ");
            promises.add(new Part("Promise " + p, section.substring(section.indexOf("`: ") + 3)));
        }
    }

    public static void main(String[] args) throws IOException {
        String document = Files.readString(Path.of(System.getProperty("rockingriders.document", "../shared/DOC.md")));
        SentencesTest sentences = new SentencesTest(document);
        Path tests = Path.of(System.getProperty("rockingriders.tests", "src/test/java"));
        try (DirectoryStream<Path> files = Files.newDirectoryStream(tests, "*EdgesTest.java")) {
            for (Path file : files) {
                sentences.reads(Files.readString(file));
            }
        }
        sentences.terms.leavesNothingOut();
        for (Part promise : sentences.promises) {
            promise.leavesNothingOut();
        }
        Checks.end();
    }

    private static String folded(String text) {
        return text.replaceAll("\\s+", " ").trim();
    }

    private static String between(String text, String from, String to) {
        int start = text.indexOf(from) + from.length();
        return text.substring(start, text.indexOf(to, start));
    }

    private void reads(String source) {
        int commented = 0;
        Matcher m = COMMENTED.matcher(source);
        while (m.find()) {
            commented++;
            readsComment(folded(m.group(1).replaceAll("\\n\\s*\\*", "\n")), m.group(2), Integer.parseInt(m.group(3)));
        }
        Checks.due("tests with a comment", commented, METHOD.matcher(source).results().count());
    }

    private void readsComment(String comment, String test, int promise) {
        int quotes = 0;
        Matcher m = QUOTED.matcher(comment);
        while (m.find()) {
            Checks.due(test + ": the promise's number in its comment", Integer.parseInt(m.group(1)), promise);
            Part part = m.group(2) == null ? promises.get(promise - 1) : m.group(2).equals("Terms") ? terms : whatItIs;
            Matcher quote = QUOTE.matcher(m.group(3));
            while (quote.find()) {
                quotes++;
                part.quotes(quote.group(1), test);
            }
        }
        Checks.holds(test + " quotes a sentence", quotes > 0);
    }
}
