import java.io.IOException;
import java.nio.file.Files;
import java.nio.file.Path;
import java.util.ArrayList;
import java.util.List;
import java.util.Set;
import java.util.TreeSet;
import java.util.regex.Matcher;
import java.util.regex.Pattern;

/**
 * The sentences of the document that no boundary test quotes, each with its promise. At the end the document is gone
 * through from its first line to its last: every sentence must be quoted by a test.
 */
public final class SentencesTest {
    /** A sentence that is quoted where a test begins, or, since it is for many promises, in a constant. */
    private static final Pattern QUOTE = Pattern.compile(
            "(?:Boundary\\.sentence\\(\\d+,|UNCHANGED =)\\s*((?:\"(?:[^\"\\\\]|\\\\.)*\"\\s*\\+?\\s*)+)[);]");
    private static final Pattern LITERAL = Pattern.compile("\"((?:[^\"\\\\]|\\\\.)*)\"");

    private static final Set<String> TITLES = Set.of("Jobs and operations", "Orders", "Breakdowns", "Schedule",
            "Critical path", "Dispatching", "Reoptimization", "Shifting bottleneck procedure", "Tabu search",
            "Lower bounds", "Texts", "Failures", "Code 3", "Exceptions", "Jobs, operations, setup times, breakdowns",
            "Changes of the orders", "Bounds, texts, failures, snapshot", "what later calls answer is free");

    public static void main(String[] args) throws IOException {
        jobsAndOperations();
        changesOfData();
        orders();
        times();
        numbersOfTheSchedule();
        criticalPath();
        swaps();
        cycles();
        dispatching();
        reoptimization();
        shiftingBottleneck();
        tabuSearch();
        bounds();
        characters();
        failures();
        everySentenceIsQuoted();
        Boundary.end();
    }

    // Promises 2 to 11. In the shop of two jobs that cross, the operations 0, 1, 2, 3 follow one another, from 0 to
    // 5, 9, 15 and 18.

    private static void jobsAndOperations() {
        SetupJobShop shop = Boundary.crossing();
        Boundary.sentence(2, "Returns the number of the job.");
        int job = shop.addJob(77, 0, 0);
        Boundary.due("its release is its completion", shop.completion(job), 77);
        Boundary.sentence(3, "Returns the number of the operation.");
        int operation = shop.addOperation(job, 3, 8, 2);
        Boundary.due("its end", shop.time(operation, 2), 85);
        Boundary.sentence(9, "Returns a number.");
        Boundary.due("jobs", shop.count(0), 3);
        Boundary.due("operations", shop.count(1), 5);
        Boundary.sentence(10, "Returns a property of an operation.");
        Boundary.sentence(10, "Returns the property.");
        int[][] want = {{0, 0, 5, 0, 0, 0}, {0, 1, 4, 1, 1, 0}, {1, 1, 6, 0, 0, 1}, {1, 0, 3, 2, 1, 1}};
        for (int number = 0; number < want.length; number++) {
            for (int what = 0; what < 6; what++) {
                Boundary.due(number + ", " + what, shop.property(number, what), want[number][what]);
            }
        }
    }

    private static void changesOfData() {
        Boundary.sentence(4, "Sets a property of a job.");
        SetupJobShop shop = Boundary.crossing();
        Boundary.due("weight 1 times tardiness 6", shop.objective(1), 6);
        shop.setJob(1, 2, 9);
        Boundary.due("weight 9", shop.objective(1), 54);
        shop.setJob(1, 1, 17);
        Boundary.due("tardiness 1", shop.objective(1), 9);
        shop.setJob(0, 0, 3);
        Boundary.due("all three units later", shop.makespan(), 21);
        Boundary.sentence(5, "Sets the duration of an operation.");
        shop.setDuration(2, 16);
        Boundary.due("ten units longer", shop.makespan(), 31);
        Boundary.due("the duration", shop.property(2, 2), 16);
        Boundary.due("of this operation alone", shop.property(1, 2), 4);
        Boundary.sentence(6, "Sets a setup time.");
        shop.setSetup(0, 1, 9);
        Boundary.due("no operation of family 1 stands behind one of family 0", shop.makespan(), 31);
        shop.setSetup(1, 0, 4);
        Boundary.due("from operation 1 to operation 2", shop.makespan(), 35);
        Boundary.sentence(7, "Adds a breakdown of a machine.");
        Boundary.sentence(7, "the first time");
        SetupJobShop broken = Boundary.crossing();
        broken.addBreakdown(3, 5, 2);
        broken.addBreakdown(0, 5, 2);
        Boundary.due("operation 1 is on machine 1", broken.time(1, 1), 5);
        broken.addBreakdown(1, 5, 2);
        Boundary.due("units 5 and 6", broken.time(1, 1), 7);
        Boundary.due("makespan", broken.makespan(), 20);
    }

    /** Each operation stands once in the order of its machine, and in no other, whatever is called. */
    private static void orders() {
        Boundary.sentence(11, "For each machine there is an order of its operations");
        SetupJobShop shop = Boundary.full();
        ordersHoldAll("at first", shop);
        shop.swap(3, 3);
        shop.move(19, 0);
        ordersHoldAll("after swap and move", shop);
        for (int rule = 0; rule < 4; rule++) {
            shop.dispatch(rule);
            ordersHoldAll("after dispatch", shop);
            shop.repair(10, rule);
            ordersHoldAll("after repair", shop);
        }
        shop.tabu(20, 3);
        ordersHoldAll("after tabu", shop);
        shop.reoptimize(2);
        ordersHoldAll("after reoptimize", shop);
        shop.shiftBottlenecks();
        ordersHoldAll("after shiftBottlenecks", shop);
        shop.restore();
        ordersHoldAll("after restore", shop);
        Boundary.sentence(11, "Returns an operation of the order of a machine.");
        Boundary.sentence(11, "Returns the operation.");
        SetupJobShop crossing = Boundary.crossing();
        Boundary.due("machine 0", crossing.order(0, 1), 3);
        Boundary.due("machine 1", crossing.order(1, 0), 1);
    }

    private static void ordersHoldAll(String when, SetupJobShop shop) {
        for (int machine = 0; machine < 4; machine++) {
            Set<Integer> found = new TreeSet<>();
            for (int position = 0; position < 5; position++) {
                int operation = shop.order(machine, position);
                Boundary.due(when + ", machine of " + operation, shop.property(operation, 1), machine);
                Boundary.due(when + ", position of " + operation, shop.property(operation, 5), position);
                found.add(operation);
            }
            Boundary.due(when + ", operations of machine " + machine, found.size(), 5);
        }
    }

    // Promises 12 to 21.

    private static void times() {
        Boundary.sentence(12, "Returns a time of an operation.");
        Boundary.sentence(12, "0 for the ready time, 1 for the start, 2 for the end");
        Boundary.sentence(12, "Returns the time.");
        SetupJobShop shop = Boundary.crossing();
        shop.addBreakdown(0, 16, 1);
        Boundary.due("ready", shop.time(3, 0), 15);
        Boundary.due("start behind the breakdown", shop.time(3, 1), 17);
        Boundary.due("end", shop.time(3, 2), 20);
        Boundary.sentence(15, "Returns the completion time of a job");
        Boundary.sentence(15, "Returns the time.");
        Boundary.due("job 0", shop.completion(0), 9);
        Boundary.due("job 1", shop.completion(1), 20);
        Boundary.sentence(14, "Returns the slack of an operation");
        Boundary.sentence(14, "Returns the slack.");
        SetupJobShop swapped = Boundary.crossing();
        swapped.swap(1, 0);
        int[] want = {1, 0, 0, 1};
        for (int operation = 0; operation < want.length; operation++) {
            Boundary.due("slack of " + operation, swapped.slack(operation), want[operation]);
        }
    }

    private static void numbersOfTheSchedule() {
        Boundary.sentence(16, "Returns a sum or a number for the whole schedule.");
        Boundary.sentence(16, "Returns the value.");
        SetupJobShop shop = Boundary.crossing();
        int[] want = {27, 6, 1, 0, 0};
        for (int what = 0; what < want.length; what++) {
            Boundary.due("objective " + what, shop.objective(what), want[what]);
        }
        Boundary.sentence(17, "Returns the utilization of a machine.");
        Boundary.due("machine 0", shop.utilization(0), 8.0 / 18.0);
        Boundary.due("machine 1", shop.utilization(1), 10.0 / 18.0);
        Boundary.due("machine 2", shop.utilization(2), 0.0);
    }

    private static void criticalPath() {
        SetupJobShop shop = Boundary.crossing();
        Boundary.sentence(19, "Returns an operation of the critical path.");
        Boundary.sentence(19, "Returns the operation.");
        Boundary.due("path", Boundary.path(shop), "0 1 2 3");
        Boundary.sentence(20, "Returns the number of blocks of the critical path.");
        Boundary.due("blocks", shop.blocks(), 3);
        Boundary.sentence(21, "the index of the block, from 0");
        Boundary.due("machine 0", shop.blockLength(0), 1);
        Boundary.due("machine 1", shop.blockLength(1), 2);
        Boundary.due("machine 0 again", shop.blockLength(2), 1);
    }

    // Promises 22 to 31.

    private static void swaps() {
        Boundary.sentence(22, "A swap exchanges two operations that are neighbours in the order of a machine.");
        Boundary.sentence(22, "the position of the first one");
        String[] want = {"1 0 2 3", "0 2 1 3", "0 1 3 2"};
        for (int position = 0; position < want.length; position++) {
            SetupJobShop shop = Boundary.row(2, 1, 2, 3, 4);
            shop.swap(2, position);
            Boundary.due("position " + position, Boundary.order(shop, 2), want[position]);
        }
    }

    /** Operations 0 to 5 follow one another through three machines; 6 follows 1 in its job, and 7 follows 6. */
    private static SetupJobShop chain() {
        SetupJobShop shop = Boundary.shopOf("0,0,0:0.1.0/1.1.0;0,0,0:1.1.0/2.1.0;0,0,0:2.1.0/0.1.0");
        shop.addOperation(0, 3, 1, 0);
        shop.addJob(0, 0, 0);
        shop.addOperation(3, 3, 1, 0);
        return shop;
    }

    private static void cycles() {
        Boundary.sentence(22, "The orders have a cycle if these times are not defined, because some operations would have "
                + "to wait for each other.");
        SetupJobShop shop = chain();
        Boundary.refused("the last one of the chain before the first one", Boundary.STATE, () -> shop.swap(0, 0));
        Boundary.due("6 and 7 wait too", Boundary.failure(shop), "1 100 8");
        Boundary.due("a chain that is cut has no cycle", shop.swap(1, 0), 4);
        Boundary.due("the failure stays", Boundary.failure(shop), "1 100 8");
        SetupJobShop free = chain();
        free.swap(3, 0);
        Boundary.refused("move", Boundary.STATE, () -> free.move(5, 0));
        Boundary.due("7 waits for nothing", Boundary.failure(free), "1 100 7");
        free.shiftBottlenecks();
        Boundary.due("a cycle is in no order", free.makespan(), 3);
    }

    /** All four jobs can begin on machine 0 at 0; operation 3 follows 2 in its job, on machine 1. */
    private static void dispatching() {
        Boundary.sentence(24, "the rule, 0 to 3");
        Boundary.sentence(24, "A dispatching procedure builds the orders anew, from empty orders or from given "
                + "beginnings.");
        String[] want = {"1 2 0 4", "2 4 0 1", "4 2 1 0", "0 1 2 4"};
        for (int rule = 0; rule < want.length; rule++) {
            SetupJobShop shop = Boundary.shopOf("0,9,0:0.3.0;0,8,0:0.1.0;0,7,0:0.2.0/1.9.0;0,0,0:0.4.0");
            shop.dispatch(rule);
            Boundary.due("rule " + rule, Boundary.order(shop, 0), want[rule]);
            shop.move(shop.order(0, 3), 1);
            shop.dispatch(rule);
            Boundary.due("anew, rule " + rule, Boundary.order(shop, 0), want[rule]);
        }
        Boundary.sentence(25, "Repairs the schedule from a time on.");
        Boundary.sentence(25, "the rule, 0 to 3");
        SetupJobShop shop = Boundary.shopOf("0,9,0:0.3.0;0,8,0:0.1.0;0,7,0:0.2.0/1.9.0;0,0,0:0.4.0");
        shop.dispatch(2);
        shop.repair(1, 0);
        Boundary.due("4 has begun", Boundary.order(shop, 0), "4 1 2 0");
        shop.repair(0, 0);
        Boundary.due("nothing has begun", Boundary.order(shop, 0), "1 2 0 4");
        shop.repair(999, 2);
        Boundary.due("all have begun", Boundary.order(shop, 0), "1 2 0 4");
    }

    private static void reoptimization() {
        Boundary.sentence(27, "Reoptimizes a machine.");
        SetupJobShop shop = Boundary.crossing();
        shop.reoptimize(1);
        Boundary.due("makespan", shop.makespan(), 10);
        Boundary.due("this machine", Boundary.order(shop, 1), "2 1");
        Boundary.due("the other one", Boundary.order(shop, 0), "0 3");
    }

    private static void shiftingBottleneck() {
        Boundary.sentence(28, "During this procedure some machines are open.");
        Boundary.sentence(28, "As long as there are open machines, the following is done:");
        Boundary.sentence(28, "for each open machine, the least makespan is determined that can be reached by closing it "
                + "with some order of its operations that has no cycle");
        SetupJobShop shop = Boundary.crossing();
        Boundary.due("machine 0 alone reaches 9, machine 1 alone 10", shop.shiftBottlenecks(), 10);
        Boundary.sentence(29, "Returns the machine.");
        Boundary.due("first", shop.bottleneck(0), 1);
        Set<Integer> closed = new TreeSet<>();
        for (int index = 0; index < 4; index++) {
            closed.add(shop.bottleneck(index));
        }
        Boundary.due("each machine is closed once", closed, Set.of(0, 1, 2, 3));
    }

    private static void tabuSearch() {
        Boundary.sentence(30, "Performs a tabu search, beginning with the present orders.");
        SetupJobShop far = Boundary.crossing();
        Boundary.due("from 18", far.tabu(5, 2), 10);
        Boundary.due("one step, then none but the way back", far.tabuSteps(), 1);
        SetupJobShop other = Boundary.crossing();
        other.swap(1, 0);
        other.swap(0, 0);
        Boundary.due("from the other 18", other.tabu(5, 2), 10);
        Boundary.due("steps", other.tabuSteps(), 2);
    }

    // Promises 32 to 38.

    /** Operation 1 comes at 2 and has nine units behind it, so operation 0 is interrupted. */
    private static void bounds() {
        Boundary.sentence(32, "The bound of a machine is computed with a schedule in which operations can be "
                + "interrupted:");
        Boundary.sentence(32, "Returns the bound of a machine.");
        Boundary.sentence(32, "Returns the bound.");
        SetupJobShop shop = Boundary.shopOf("0,0,0:0.5.0;2,0,0:0.1.0/1.9.0");
        Boundary.due("not 15", shop.bound(0), 12);
        Boundary.due("the order has no interruption", shop.makespan(), 15);
    }

    private static void characters() {
        Boundary.sentence(34, "the character");
        SetupJobShop shop = Boundary.shopOf("0,0,0:0.1.0");
        shop.append((char) ('0' + 256));
        Boundary.refused("no digit, though its low bits are", Boundary.ARGUMENT, () -> shop.read());
        Boundary.due("failure", Boundary.failure(shop), "2 100");
    }

    private static void failures() {
        Boundary.sentence(36, "It has a code, which may have a cause with a code, and so on.");
        Boundary.sentence(36, "0 for the failure, 1 for its cause, 2 for the cause of the cause, and so on");
        Boundary.sentence(36, "Returns the code of the latest failure or of a cause.");
        Boundary.sentence(36, "Returns the code;");
        String[] texts = {"0,0,0:0.1.0;", "0,0,0:0.1.0;100,0,0:0.1.0", "0,0,0:0.1.0/1.31.0"};
        String[] want = {"2 112", "3 101 2", "3 100 3 101"};
        SetupJobShop shop = new SetupJobShop();
        for (int i = 0; i < texts.length; i++) {
            Check.type(shop, texts[i]);
            Check.answerOf(shop::read);
            Boundary.due(texts[i], Boundary.failure(shop), want[i]);
            Boundary.due("no cause behind the last one", shop.failure(want[i].split(" ").length), -1);
        }
    }

    // The document from its first line to its last.

    private static void everySentenceIsQuoted() throws IOException {
        List<String> quotes = quotes();
        String text = Document.text();
        String description = Document.between(text, "with their causes.", "## The public face")
                + Document.between(text, "## Description", "Examples. Each one begins");
        List<String> missing = new ArrayList<>();
        int sentences = collectMissing(description, quotes, missing);
        for (int promise = 1; promise <= Document.PROMISES; promise++) {
            String section = Document.promise(promise);
            sentences += collectMissing(section.substring(section.indexOf("\n\n")), quotes, missing);
        }
        Check.due("sentences that no test quotes", missing, List.of());
        Check.due("sentences", sentences > 250, true);
    }

    private static int collectMissing(String text, List<String> quotes, List<String> missing) {
        int sentences = 0;
        for (String paragraph : text.split("\n\n|\n(?=- )")) {
            for (String sentence : Document.oneLine(paragraph).split("(?<=[.;:]) ")) {
                String words = sentence.replaceAll("[.;:]$", "");
                if (!isTitle(words)) {
                    sentences++;
                    if (quotes.stream().noneMatch(quote -> quote.contains(words) || words.contains(quote))) {
                        missing.add(sentence);
                    }
                }
            }
        }
        return sentences;
    }

    /** Titles, names of parameters and signatures say nothing that could be broken here. */
    private static boolean isTitle(String words) {
        return words.isEmpty() || words.startsWith("`") || words.startsWith("- `") || TITLES.contains(words);
    }

    private static List<String> quotes() throws IOException {
        List<String> quotes = new ArrayList<>();
        try (var files = Files.list(Path.of("src/test/java"))) {
            for (Path file : files.filter(each -> each.toString().endsWith("Test.java")).toList()) {
                Matcher matcher = QUOTE.matcher(Files.readString(file));
                while (matcher.find()) {
                    StringBuilder words = new StringBuilder();
                    LITERAL.matcher(matcher.group(1)).results().forEach(part -> words.append(part.group(1)));
                    quotes.add(words.toString().replace("\\\"", "\"").replaceAll("[.;:]$", ""));
                }
            }
        }
        return quotes;
    }
}
