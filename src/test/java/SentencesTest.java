import java.io.IOException;
import java.nio.charset.StandardCharsets;
import java.nio.file.DirectoryStream;
import java.nio.file.Files;
import java.nio.file.Path;
import java.util.regex.Matcher;
import java.util.regex.Pattern;

/** Each sentence of the terms and of each promise, and each part of one ahead of a semicolon, has a test of its own. */
public final class SentencesTest {
    private static final String TESTS = "src/test/java";
    private static final String LITERAL = "\"(?:[^\"\\\\]|\\\\.)*\"";
    private static final Pattern TEST = Pattern.compile("due\\.test\\((\\d+), (" + LITERAL + "(?:\\s*\\+\\s*" + LITERAL + ")*)");
    /** A . or ; at the end of words; those of 0 .. 15 and that between CLAUSES stand behind a blank. */
    private static final Pattern END = Pattern.compile("(?<![ .])[.;](?=\\s|$)");

    public static void main(String[] args) throws IOException {
        Due due = new Due();
        boolean[][] tested = new boolean[Doc.PROMISES + 1][];
        for (int promise = 0; promise <= Doc.PROMISES; promise++) {
            tested[promise] = new boolean[Doc.part(promise).length()];
        }
        try (DirectoryStream<Path> files = Files.newDirectoryStream(Path.of(TESTS), "*Test.java")) {
            for (Path file : files) {
                mark(tested, Files.readString(file, StandardCharsets.UTF_8));
            }
        }
        for (int promise = 0; promise <= Doc.PROMISES; promise++) {
            String part = Doc.part(promise);
            int from = promise == 0 ? part.indexOf("==== 1 CELLS") : 0;
            int end = promise == 0 ? part.indexOf("Ahead of the calls") : part.length();
            sentences(due, promise, part.substring(0, end), from, tested[promise]);
        }
        due.end();
    }

    private static void mark(boolean[][] tested, String source) {
        Matcher test = TEST.matcher(source);
        while (test.find()) {
            int promise = Integer.parseInt(test.group(1));
            String words = test.group(2).replaceAll("\"\\s*\\+\\s*\"", "");
            words = words.substring(1, words.length() - 1).replace("\\n", "\n").replace("\\\"", "\"");
            int place = Doc.part(promise).indexOf(words);
            for (int i = place; place >= 0 && i < place + words.length(); i++) {
                tested[promise][i] = true;
            }
        }
    }

    private static void sentences(Due due, int promise, String part, int from, boolean[] tested) {
        Matcher end = END.matcher(part);
        int start = from;
        while (end.find(start)) {
            String sentence = part.substring(start, end.end()).trim();
            boolean any = false;
            for (int i = start; i < end.end(); i++) {
                any |= tested[i] && !Character.isWhitespace(part.charAt(i));
            }
            due.holds("promise " + promise + " (0: the terms) has a test of: " + sentence, any);
            start = end.end();
            if (start >= part.length()) {
                break;
            }
        }
    }
}
