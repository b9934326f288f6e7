import java.io.IOException;
import java.nio.charset.StandardCharsets;
import java.nio.file.Files;
import java.nio.file.Path;
import java.util.ArrayList;
import java.util.BitSet;
import java.util.List;
import java.util.regex.Matcher;
import java.util.regex.Pattern;
import java.util.stream.Stream;

/**
 * Whether the tests quote the whole document, from "Terms" to "Not promised": a sentence that no test names with
 * of(..) is told as a wrong answer. Headings and faces of methods need no test here, nor do the few words that only
 * say of what the next sentence speaks ("WHOLE TOYS of a KIND:").
 */
public final class DocumentTest {
    private static final Path DOCUMENT = Path.of("../shared/DOC.md");
    private static final Path TESTS = Path.of("src/test/java");
    private static final Pattern QUOTE =
        Pattern.compile("\\bof\\(\\s*\"[^\"]*\"\\s*,\\s*\"((?:[^\"\\\\]|\\\\.)*)\"\\s*\\)");
    private static final Pattern HEADING = Pattern.compile("## Promise \\d+: [^`]*`[^`]*`:|## Terms|==== \\d\\.|```(text)?");
    private static final int FEW_WORDS = 3;

    public static void main(String[] args) throws IOException {
        Dues dues = new Dues("DocumentTest");
        if (Files.exists(DOCUMENT)) {
            String document = plain(Files.readString(DOCUMENT, StandardCharsets.UTF_8));
            String asked = document.substring(document.indexOf("## Terms"), document.indexOf("## Not promised"));
            List<String> quotes = quotes();
            dues.due("quotes of the tests, more than 250", quotes.size() > 250, true);
            for (String words : unquoted(asked, quotes)) {
                dues.due("words that no test names, \"" + words + "\"", 1, 0);
            }
        }
        dues.end();
    }

    private static String plain(String text) {
        return text.replaceAll("\\s+", " ");
    }

    private static List<String> quotes() throws IOException {
        List<String> quotes = new ArrayList<>();
        List<Path> files;
        try (Stream<Path> all = Files.list(TESTS)) {
            files = all.filter(file -> file.toString().endsWith("Test.java")).toList();
        }
        for (Path file : files) {
            Matcher matcher = QUOTE.matcher(Files.readString(file, StandardCharsets.UTF_8));
            while (matcher.find()) {
                quotes.add(plain(matcher.group(1).replaceAll("\\\\(.)", "$1")));
            }
        }
        return quotes;
    }

    private static List<String> unquoted(String text, List<String> quotes) {
        BitSet named = new BitSet(text.length());
        Matcher headings = HEADING.matcher(text);
        while (headings.find()) {
            named.set(headings.start(), headings.end());
        }
        for (String quote : quotes) {
            for (int at = text.indexOf(quote); at >= 0; at = text.indexOf(quote, at + 1)) {
                named.set(at, at + quote.length());
            }
        }
        List<String> left = new ArrayList<>();
        for (int from = named.nextClearBit(0); from < text.length(); from = named.nextClearBit(from + 1)) {
            int next = named.nextSetBit(from);
            int to = next < 0 ? text.length() : next;
            String words = text.substring(from, to).replaceAll("[^A-Za-z0-9' ]", " ").trim();
            if (!words.isEmpty() && words.split(" +").length > FEW_WORDS) {
                left.add(words);
            }
            from = to;
        }
        return left;
    }
}
