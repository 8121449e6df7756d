import java.io.IOException;
import java.nio.file.Files;
import java.nio.file.Path;
import java.util.ArrayList;
import java.util.List;
import java.util.regex.Matcher;
import java.util.regex.Pattern;

/** The document that the tests are held against: its parts, as they stand in ../shared/DOC.md. */
final class Document {
    static final int PROMISES = 38;

    private static final Path PLACE = Path.of("../shared/DOC.md");

    private Document() {
    }

    static String text() throws IOException {
        return Files.readString(PLACE);
    }

    /** What stands between a mark and the next place of another one, both left out. */
    static String between(String text, String from, String to) {
        int begin = text.indexOf(from);
        int end = begin < 0 ? -1 : text.indexOf(to, begin + from.length());
        if (end < 0) {
            throw new IllegalStateException("not in the document: " + from + " .. " + to);
        }
        return text.substring(begin + from.length(), end);
    }

    /** The section of a promise, without its heading's mark. */
    static String promise(int number) throws IOException {
        return between(text(), "## Promise " + number + ":", "\n## ");
    }

    static String oneLine(String words) {
        return words.replaceAll("\\s+", " ").trim();
    }

    /** The declarations of the methods in the public face, without "public" and the ";", in their order. */
    static List<String> methods() throws IOException {
        List<String> methods = new ArrayList<>();
        String face = between(text(), "public final class SetupJobShop {", "\n}");
        Matcher matcher = Pattern.compile("public ((?:int|double|void) \\w+\\([^;]*);").matcher(face);
        while (matcher.find()) {
            methods.add(matcher.group(1));
        }
        return methods;
    }
}
