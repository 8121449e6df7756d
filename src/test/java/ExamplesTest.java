import java.io.IOException;
import java.util.Arrays;
import java.util.regex.Matcher;
import java.util.regex.Pattern;

/** The examples of the document's section "Description", read from the document and called as they stand there. */
public final class ExamplesTest {
    private static final String[] HEADINGS = {"Jobs with set-ups:", "Moves, a failure and searches:", "A breakdown:",
        "Exceptions:"};
    private static final Pattern CALL = Pattern.compile("(\\w+)\\(([^)]*)\\) -> (throws \\w+|-?\\d+)[;.]");

    public static void main(String[] args) throws IOException {
        String examples = Document.between(Document.text(), "the result of a call follows its arrow.",
                "The constructor and the methods follow");
        String[] paragraphs = examples.trim().split("\n\n");
        Check.due("number of examples", paragraphs.length, HEADINGS.length);
        int calls = 0;
        for (int i = 0; i < Math.min(paragraphs.length, HEADINGS.length); i++) {
            Check.due("heading", paragraphs[i].lines().findFirst().orElse(""), HEADINGS[i]);
            calls += run(Document.oneLine(paragraphs[i]));
        }
        Check.due("every arrow is a call", calls, examples.split("->", -1).length - 1);
        Check.end();
    }

    /** Answers the number of calls. */
    private static int run(String example) {
        SetupJobShop shop = new SetupJobShop();
        Matcher matcher = CALL.matcher(example);
        int calls = 0;
        while (matcher.find()) {
            Object got = Check.answerByName(shop, matcher.group(1), numbers(matcher.group(2)));
            Check.due(example.substring(0, matcher.end()), String.valueOf(got), matcher.group(3));
            calls++;
        }
        return calls;
    }

    private static Object[] numbers(String list) {
        return list.isBlank() ? new Object[0] : Arrays.stream(list.split(", ")).map(Integer::valueOf).toArray();
    }
}
