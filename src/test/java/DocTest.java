import java.io.IOException;
import java.lang.reflect.Method;
import java.nio.file.Files;
import java.nio.file.Path;
import java.util.ArrayList;
import java.util.Arrays;
import java.util.List;
import java.util.Set;
import java.util.TreeSet;
import java.util.regex.Matcher;
import java.util.regex.Pattern;

/**
 * The document against the tests: what a test says it is for stands in the document; each promise is quoted whole by a
 * test; no words of the Terms are without one; and the face that FaceTest asks for is the one that the document writes out.
 */
public final class DocTest {
    private static final Path DOCUMENT = Path.of("..", "shared", "DOC.md");
    private static final Class<?>[] QUOTING = {PromiseTest.class, EdgeTextTest.class, EdgeTapeTest.class, EdgeActTest.class, EdgeAskTest.class};
    private static final int PROMISES = 44;

    public static void main(String[] args) throws IOException {
        String document = Files.readString(DOCUMENT).replace("&lt;", "<").replace("&gt;", ">");
        List<String> quotes = quotes();
        quotesStandIn(plain(document), quotes);
        promisesAreQuoted(document, quotes);
        nothingIsUntested(document, quotes);
        faceIsTheDocuments(document);
        Check.close();
    }

    private static String plain(String text) {
        return text.replace("`", "").replaceAll("\\s+", " ").trim();
    }

    private static List<String> quotes() {
        List<String> found = new ArrayList<>();
        for (Class<?> tests : QUOTING) {
            for (Method test : tests.getDeclaredMethods()) {
                if (test.isAnnotationPresent(Says.class)) {
                    found.add(plain(test.getAnnotation(Says.class).value()));
                }
            }
        }
        return found;
    }

    private static void quotesStandIn(String document, List<String> quotes) {
        for (String quote : quotes) {
            Check.is("the document says: " + quote, document.contains(quote));
        }
    }

    /** What a promise says, without its heading and the line of the face ahead of it. */
    private static String promise(String document, int number) {
        Matcher section = Pattern.compile("## Promise " + number + ": [^\n]*\n+`[^`]*`: ([^#]*)").matcher(document);
        Check.is("promise " + number + " is found", section.find());
        return plain(section.group(1));
    }

    private static void promisesAreQuoted(String document, List<String> quotes) {
        for (int number = 1; number <= PROMISES; number++) {
            Check.is("a test quotes all of promise " + number, quotes.contains(promise(document, number)));
        }
        Check.is("no promise comes behind the last one", !document.contains("## Promise " + (PROMISES + 1)));
    }

    private static void nothingIsUntested(String document, List<String> quotes) {
        String terms = plain(document.substring(document.indexOf("\n## Terms"), document.indexOf("\n## Promise 1:")));
        boolean[] quoted = new boolean[terms.length()];
        for (String quote : quotes) {
            for (int at = terms.indexOf(quote); at >= 0; at = terms.indexOf(quote, at + 1)) {
                Arrays.fill(quoted, at, at + quote.length(), true);
            }
        }
        StringBuilder left = new StringBuilder();
        for (int i = 0; i < terms.length(); i++) {
            left.append(quoted[i] ? '\n' : terms.charAt(i));
        }
        for (String words : left.toString().split("\n+")) {
            boolean isFrame = words.trim().matches("(## Terms TOKENS of all texts,|==== [23]\\.|\\.\\) text|text|\\. LINE:|[^a-zA-Z0-9]*)");
            Check.is("no test is for: " + words, isFrame);
        }
    }

    private static void faceIsTheDocuments(String document) {
        String face = document.substring(document.indexOf("public final class NamesAgain {"), document.indexOf("\n## Terms"));
        Set<String> due = new TreeSet<>();
        Matcher line = Pattern.compile("public (int|boolean) (\\w+)\\(([^)]*)\\)").matcher(face);
        while (line.find()) {
            due.add(line.group(1) + " " + line.group(2) + "(" + line.group(3).replaceAll("int \\w+", "int").replace(" ", "") + ")");
        }
        Check.eq("calls of the face", due.size(), PROMISES - 1);
        Check.is("the face that FaceTest asks for is " + due, due.equals(Set.of(FaceTest.FACE)));
    }
}
