import java.io.IOException;
import java.util.Map;
import java.util.NoSuchElementException;
import java.util.Set;
import java.util.TreeMap;
import java.util.TreeSet;
import java.util.function.Function;
import java.util.function.Supplier;

/**
 * What the tests of boundary cases share. A test begins with the promise and the sentence of the document that it is
 * for; at the end the sentences are looked up in the document, so that none is invented and no "Throws" is left out.
 */
final class Boundary {
    /** Just outside every range that begins with 0, or far away, or 0 if only the low bits are looked at. */
    static final int[] FAR = {-1, Integer.MIN_VALUE, Integer.MIN_VALUE + 1, Integer.MAX_VALUE, -128, 256, 65536,
        1 << 30};

    static final Class<?> INDEX = IndexOutOfBoundsException.class;
    static final Class<?> ARGUMENT = IllegalArgumentException.class;
    static final Class<?> STATE = IllegalStateException.class;
    static final Class<?> ELEMENT = NoSuchElementException.class;

    private static final Map<Integer, Set<String>> QUOTED = new TreeMap<>();
    private static String place = "";

    private Boundary() {
    }

    /** What follows, up to the next sentence, is a test of this sentence for this promise. */
    static void sentence(int promise, String words) {
        QUOTED.computeIfAbsent(promise, key -> new TreeSet<>()).add(Document.oneLine(words));
        place = "promise " + promise + ", \"" + words + "\": ";
    }

    static void due(String what, Object got, Object want) {
        Check.due(place + what, got, want);
    }

    /** A call that is refused, looked at alone. */
    static void refused(String what, Class<?> exception, Check.Call call) {
        Check.refused(place + what, exception, call);
    }

    /** A call that is refused, and then every question is answered as if it had not been made. */
    static void refused(String what, Class<?> exception, Supplier<SetupJobShop> recipe,
            Function<SetupJobShop, Object> call) {
        refused(what, exception, recipe, call, true);
    }

    /** The same for a call whose refusal is a failure, so that the latest failure is another one afterwards. */
    static void refusedWithFailure(String what, Class<?> exception, Supplier<SetupJobShop> recipe,
            Function<SetupJobShop, Object> call) {
        refused(what, exception, recipe, call, false);
    }

    private static void refused(String what, Class<?> exception, Supplier<SetupJobShop> recipe,
            Function<SetupJobShop, Object> call, boolean withFailure) {
        SetupJobShop shop = recipe.get();
        refused(what, exception, () -> call.apply(shop));
        due(what + " and the state", allAnswers(shop, withFailure), allAnswers(recipe.get(), withFailure));
        SetupJobShop saved = recipe.get();
        refused(what, exception, () -> call.apply(saved));
        due(what + " and the snapshot", savedAnswers(saved), savedAnswers(recipe.get()));
    }

    /** A shop in which all that can be kept differs from a new shop: see the snapshot, the failure and the text. */
    static SetupJobShop rich() {
        SetupJobShop shop = new SetupJobShop();
        shop.addJob(9, 9, 9);
        shop.addOperation(0, 3, 9, 2);
        shop.setSetup(2, 2, 9);
        shop.addBreakdown(3, 10, 10);
        shop.save();
        shop.setJob(0, 0, 1);
        shop.setJob(0, 1, 22);
        shop.setJob(0, 2, 3);
        shop.addOperation(0, 1, 4, 0);
        shop.addJob(0, 12, 1);
        shop.addOperation(1, 1, 6, 1);
        shop.addOperation(1, 0, 3, 2);
        shop.addOperation(1, 3, 3, 0);
        shop.addJob(5, 30, 2);
        shop.addOperation(2, 2, 7, 0);
        shop.addOperation(2, 1, 2, 2);
        shop.setSetup(0, 1, 2);
        shop.setSetup(1, 2, 5);
        shop.setSetup(2, 0, 3);
        shop.addBreakdown(0, 6, 2);
        shop.addBreakdown(1, 3, 2);
        shop.addBreakdown(1, 16, 3);
        shop.addBreakdown(2, 4, 3);
        shop.addBreakdown(2, 20, 1);
        shop.addBreakdown(2, 30, 60);
        Check.type(shop, "0,0,0:1.1.0/1.1.0");
        Check.answerOf(shop::read);
        Check.type(shop, "0,9,1:0.2.0;1");
        shop.shiftBottlenecks();
        shop.tabu(3, 2);
        return shop;
    }

    /** Five jobs with four operations each: no job and no operation can be added. Operation 4 j + m is on machine m. */
    static SetupJobShop full() {
        SetupJobShop shop = new SetupJobShop();
        for (int job = 0; job < 5; job++) {
            shop.addJob(job, 100 + job, job);
            for (int machine = 0; machine < 4; machine++) {
                shop.addOperation(job, machine, 1 + job + machine, (job + machine) % 3);
            }
        }
        shop.save();
        shop.setSetup(1, 2, 4);
        Check.type(shop, "2,2");
        return shop;
    }

    /** Two jobs that cross: machine 0 has the order 0, 3 and must keep it as long as machine 1 has the order 1, 2. */
    static SetupJobShop crossing() {
        return shopOf("0,20,2:0.5.0/1.4.1;0,12,1:1.6.0/0.3.2");
    }

    static SetupJobShop shopOf(String text) {
        SetupJobShop shop = new SetupJobShop();
        Check.type(shop, text);
        shop.read();
        return shop;
    }

    /** Jobs of one operation each, all on one machine, with these durations and family 0. */
    static SetupJobShop row(int machine, int... durations) {
        SetupJobShop shop = new SetupJobShop();
        for (int job = 0; job < durations.length; job++) {
            shop.addJob(0, 0, 0);
            shop.addOperation(job, machine, durations[job], 0);
        }
        return shop;
    }

    /** The order of a machine as a text, for instance "0 2 1". */
    static String order(SetupJobShop shop, int machine) {
        StringBuilder order = new StringBuilder();
        Object next = Check.answerOf(() -> shop.order(machine, 0));
        for (int position = 1; next instanceof Integer; position++) {
            int at = position;
            order.append(position > 1 ? " " : "").append(next);
            next = Check.answerOf(() -> shop.order(machine, at));
        }
        return order.toString();
    }

    /** The critical path as a text, for instance "0 2 1". */
    static String path(SetupJobShop shop) {
        StringBuilder path = new StringBuilder();
        for (int index = 0; index < shop.pathLength(); index++) {
            path.append(index > 0 ? " " : "").append(shop.path(index));
        }
        return path.toString();
    }

    /** The codes of the latest failure up to the first -1, for instance "3 100 2". */
    static String failure(SetupJobShop shop) {
        StringBuilder codes = new StringBuilder().append(shop.failure(0));
        for (int depth = 1; shop.failure(depth) != -1; depth++) {
            codes.append(' ').append(shop.failure(depth));
        }
        return codes.toString();
    }

    /** All that can be learned of a shop, as one text. The shop is spoiled afterwards. */
    static String allAnswers(SetupJobShop shop, boolean withFailure) {
        StringBuilder all = new StringBuilder(Check.stateOf(shop));
        all.append(" counts ").append(shop.count(0)).append(' ').append(shop.count(1));
        all.append(" path ").append(path(shop)).append(" blocks ").append(shop.blocks());
        for (int machine = 0; machine < 4; machine++) {
            all.append(" order ").append(order(shop, machine)).append(" best ").append(shop.best(machine));
            int index = machine;
            all.append(" bottleneck ").append(Check.answerOf(() -> shop.bottleneck(index)));
        }
        all.append(" steps ").append(shop.tabuSteps());
        all.append(withFailure ? " failure " + failure(shop) : "");
        takeApart(shop, all);
        return all.toString();
    }

    private static void takeApart(SetupJobShop shop, StringBuilder all) {
        for (int job = 0; job < shop.count(0); job++) {
            for (int what = 0; what < 3; what++) {
                all.append(" set ").append(shop.setJob(job, what, 0));
            }
        }
        for (int pair = 0; pair < 9; pair++) {
            all.append(" setup ").append(shop.setSetup(pair / 3, pair % 3, 0));
        }
        for (int machine = 0; machine < 4; machine++) {
            all.append(" breakdowns ").append(shop.clearBreakdowns(machine));
        }
        all.append(" read ").append(Check.answerOf(shop::read)).append(' ').append(shop.failure(1));
    }

    /** What the snapshot of a shop holds, or that there is none. */
    private static String savedAnswers(SetupJobShop shop) {
        Object restored = Check.answerOf(() -> {
            shop.restore();
            return "restored";
        });
        return restored + allAnswers(shop, false);
    }

    /** To be called at the end of a test of the promises from one number to another, all of them. */
    static void end(int from, int to) throws IOException {
        place = "the document, ";
        for (int promise = from; promise <= to; promise++) {
            for (String paragraph : Document.promise(promise).split("\n\n")) {
                if (paragraph.startsWith("Throws")) {
                    Set<String> quoted = QUOTED.getOrDefault(promise, Set.of());
                    due("a test for promise " + promise + ": " + paragraph,
                            quoted.contains(Document.oneLine(paragraph)), true);
                }
            }
            due("a test for promise " + promise, QUOTED.containsKey(promise), true);
        }
        end();
    }

    /** To be called at the end of a test of some sentences. */
    static void end() throws IOException {
        place = "the document, ";
        String general = Document.oneLine(Document.between(Document.text(), "## What it is", "## Promise 1:"));
        for (int promise : QUOTED.keySet()) {
            String section = Document.oneLine(Document.promise(promise));
            for (String words : QUOTED.get(promise)) {
                due("words for promise " + promise + ": " + words, section.contains(words) || general.contains(words),
                        true);
            }
        }
        Check.end();
    }
}
