import java.io.IOException;
import java.lang.reflect.Method;
import java.lang.reflect.Modifier;
import java.nio.file.DirectoryStream;
import java.nio.file.Files;
import java.nio.file.Path;
import java.util.ArrayList;
import java.util.Arrays;
import java.util.List;
import java.util.TreeSet;
import java.util.regex.Matcher;
import java.util.regex.Pattern;

/** From its first line to its last the document is quoted by a test with checks, but for what tells nothing to check. */
public final class DocumentTest {
    private static final Path DOCUMENT = Path.of("../shared/DOC.md");
    private static final Path TESTS = Path.of("src/test/java");
    /** A call of says, with the texts that are joined in it. */
    private static final Pattern QUOTE = Pattern.compile("says\\(\\d+,\\s*((?:\"(?:[^\"\\\\]|\\\\.)*\"[\\s+]*)+)\\)");
    private static final Pattern TEXT = Pattern.compile("\"((?:[^\"\\\\]|\\\\.)*)\"");
    private static final Pattern CALL = Pattern.compile("public (\\w+) (\\w+)\\(([^)]*)\\)");
    /** Titles, and what is said of the document itself or left free. */
    private static final String[] NOTHING_TO_CHECK = {
        "# PushedTillItCatches ## What it is Pushed till it catches: a street .*? an image. ==== I. ",
        "; what later calls answer is free.", "## The public face ```java .*? ``` ", "## Terms ", "```text ", "``` ",
        "==== II+. ", "## Promise \\d+: [^`]*`[^`]*`: ", "CATCHES: (?=n \\(what 0)", "## Not promised .*",
        "Ahead of the calls (?:`\\w+`,? )+the interface says: ---- [^(.]*\\."};

    private static final Checks checks = new Checks("DocumentTest");

    public static void main(String[] args) throws IOException {
        String document = Files.readString(DOCUMENT).replaceAll("\\s+", " ");
        theFace(document);
        everythingIsQuoted(document);
        theQuoted();
        checks.end();
    }

    /** The calls of the class are those that the document's face shows, with the same types. */
    private static void theFace(String document) {
        TreeSet<String> told = new TreeSet<>();
        Matcher call = CALL.matcher(document);
        while (call.find()) {
            told.add(call.group(1) + " " + call.group(2) + "(" + call.group(3).replaceAll(" \\w+(,|$)", "$1") + ")");
        }
        TreeSet<String> found = new TreeSet<>();
        TreeSet<String> thrown = new TreeSet<>();
        for (Method method : PushedTillItCatches.class.getDeclaredMethods()) {
            if (Modifier.isPublic(method.getModifiers())) {
                List<String> types = new ArrayList<>();
                for (Class<?> type : method.getParameterTypes()) {
                    types.add(type.getName());
                }
                found.add(method.getReturnType() + " " + method.getName() + "(" + String.join(", ", types) + ")");
                for (Class<?> type : method.getExceptionTypes()) {
                    thrown.add(method.getName() + " " + type.getSimpleName());
                }
            }
        }
        checks.due("calls of the face", told.size(), 41);
        checks.holds("told " + told + ", found " + found, told.equals(found));
        List<String> element = List.of("element IllegalArgumentException", "element IllegalStateException");
        checks.holds("element alone tells what it throws: " + thrown, thrown.equals(new TreeSet<>(element)));
    }

    private static void everythingIsQuoted(String document) throws IOException {
        boolean[] covered = new boolean[document.length()];
        for (String quote : quotes()) {
            int place = document.indexOf(quote);
            checks.holds("'" + quote + "' stands in the document", place >= 0);
            while (place >= 0) {
                Arrays.fill(covered, place, place + quote.length(), true);
                place = document.indexOf(quote, place + 1);
            }
        }
        for (String words : NOTHING_TO_CHECK) {
            Matcher free = Pattern.compile(words).matcher(document);
            while (free.find()) {
                Arrays.fill(covered, free.start(), free.end(), true);
            }
        }
        StringBuilder left = new StringBuilder();
        for (int i = 0; i <= document.length(); i++) {
            if (i < document.length() && !covered[i]) {
                left.append(document.charAt(i));
            } else if (left.length() > 0) {
                // What stands between two quotes may be left out, if it says nothing.
                checks.holds("no test quotes '" + left + "'", left.toString().matches("[ ,;:.]+"));
                left.setLength(0);
            }
        }
    }

    private static List<String> quotes() throws IOException {
        List<String> quotes = new ArrayList<>();
        try (DirectoryStream<Path> files = Files.newDirectoryStream(TESTS, "*Test.java")) {
            for (Path file : files) {
                Matcher quote = QUOTE.matcher(Files.readString(file));
                while (quote.find()) {
                    quotes.add(textOf(quote.group(1)));
                }
            }
        }
        return quotes;
    }

    /** The texts of a Java expression that joins them, as one. */
    private static String textOf(String joined) {
        StringBuilder all = new StringBuilder();
        Matcher text = TEXT.matcher(joined);
        while (text.find()) {
            all.append(text.group(1).replaceAll("\\\\(.)", "$1"));
        }
        return all.toString();
    }

    /** The search above finds what it should. */
    private static void theQuoted() {
        Matcher quote = QUOTE.matcher("x.says(7, \"a \\\"b\\\"; \"\n        + \"c)\");");
        checks.holds("a joined quote is found", quote.find());
        checks.holds("it is joined", textOf(quote.group(1)).equals("a \"b\"; c)"));
    }
}
