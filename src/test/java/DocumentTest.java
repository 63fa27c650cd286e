import java.io.IOException;
import java.nio.charset.StandardCharsets;
import java.nio.file.Files;
import java.nio.file.Path;
import java.util.Arrays;
import java.util.List;
import java.util.regex.Matcher;
import java.util.regex.Pattern;
import java.util.stream.Collectors;
import java.util.stream.Stream;

/** The words under which tests stand are the document's, and no part of a sentence is left without a test. */
public final class DocumentTest {
    private static final Path DOCUMENT = Path.of("../shared/DOC.md");
    private static final String FIRST_PART = "## Terms";
    private static final String NEXT_PART = "## Not promised";
    private static final Path TESTS = Path.of("src/test/java");
    private static final String LITERAL = "\"(?:[^\"\\\\]|\\\\.)*\"";
    private static final Pattern SAYS =
        Pattern.compile("says\\(\\s*(" + LITERAL + "(?:\\s*\\+\\s*" + LITERAL + ")*)\\s*\\)");
    /** What lies between two stops, commas and the like. */
    private static final Pattern PART = Pattern.compile("[^.,;:]*(?:[.,;:](?! |$)[^.,;:]*)*");

    private static final Check check = new Check();

    public static void main(String[] args) throws IOException {
        if (!Files.isReadable(DOCUMENT)) {
            System.out.println("the document is not here, so nothing is held against it");
            return;
        }
        String document = onOneLine(Files.readString(DOCUMENT, StandardCharsets.UTF_8));
        int terms = document.indexOf(FIRST_PART) + FIRST_PART.length();
        int end = document.indexOf(NEXT_PART, terms);
        if (terms < FIRST_PART.length() || end < 0) {
            check.holds("the document has its parts", false);
            check.end();
        }
        boolean[] tested = new boolean[document.length()];
        for (String words : wordsOfTests()) {
            check.holds("\"" + words + "\" stands in the document", mark(document, words, tested));
        }
        Matcher part = PART.matcher(document).region(terms, end);
        while (part.find()) {
            if (saysSomething(part.group())) {
                check.holds("\"" + part.group().strip() + "\" has a test", isTested(tested, part.start(), part.end()));
            }
        }
        check.end();
    }

    /** Headings, the faces of methods and the signs around a block are no sentences: they become blanks. */
    private static String onOneLine(String text) {
        return text.replaceAll("(?m)^## Promise.*$", "").replace("The constants:", "").replaceAll("`[^`]*`:", "")
            .replaceAll("```(text)?", "").replaceAll("\\s+", " ");
    }

    private static List<String> wordsOfTests() throws IOException {
        List<Path> files;
        try (Stream<Path> all = Files.list(TESTS)) {
            files = all.sorted().collect(Collectors.toList());
        }
        StringBuilder code = new StringBuilder();
        for (Path file : files) {
            code.append(Files.readString(file, StandardCharsets.UTF_8));
        }
        return SAYS.matcher(code).results()
            .map(found -> found.group(1).replaceAll("\"\\s*\\+\\s*\"", "").replaceAll("^\"|\"$", ""))
            .collect(Collectors.toList());
    }

    private static boolean mark(String document, String words, boolean[] tested) {
        int at = document.indexOf(words);
        boolean stands = at >= 0;
        for (; at >= 0; at = document.indexOf(words, at + 1)) {
            Arrays.fill(tested, at, at + words.length(), true);
        }
        return stands;
    }

    private static boolean saysSomething(String part) {
        return part.chars().anyMatch(Character::isLetter);
    }

    private static boolean isTested(boolean[] tested, int from, int to) {
        for (int k = from; k < to; k++) {
            if (tested[k]) {
                return true;
            }
        }
        return false;
    }
}
