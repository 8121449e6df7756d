import java.io.IOException;
import java.util.LinkedHashMap;
import java.util.Map;
import java.util.function.Function;

/**
 * The sentence on exceptions for each promise that throws one: many refused calls, one after the other, on one object
 * in which nothing is as in a new one. The tests of the promises make each refused call alone.
 */
public final class BoundaryExceptionsTest {
    private static final String UNCHANGED =
            "A call that throws an exception leaves the state unchanged, unless stated otherwise.";

    private static final Map<String, Function<SetupJobShop, Object>> REFUSED = new LinkedHashMap<>();

    public static void main(String[] args) throws IOException {
        collectChanges();
        collectQuestions();
        oneAfterTheOther();
        beforeEachQuestion();
        failuresLeaveTheStateToo();
        Boundary.end();
    }

    private static void add(int promise, String name, Function<SetupJobShop, Object> call) {
        REFUSED.put(promise + " " + name, call);
    }

    private static void collectChanges() {
        add(2, "IllegalArgumentException", shop -> shop.addJob(0, 201, 0));
        add(3, "IndexOutOfBoundsException", shop -> shop.addOperation(3, 0, 1, 0));
        add(3, "IllegalArgumentException", shop -> shop.addOperation(0, 0, 31, 0));
        add(3, "IllegalStateException", shop -> shop.addOperation(0, 3, 1, 0));
        add(4, "IndexOutOfBoundsException", shop -> shop.setJob(3, 0, 0));
        add(4, "IllegalArgumentException", shop -> shop.setJob(0, 2, 10));
        add(5, "IndexOutOfBoundsException", shop -> shop.setDuration(7, 1));
        add(5, "IllegalArgumentException", shop -> shop.setDuration(6, 31));
        add(6, "IndexOutOfBoundsException", shop -> shop.setSetup(0, 3, 1));
        add(6, "IllegalArgumentException", shop -> shop.setSetup(0, 2, 10));
        add(7, "IndexOutOfBoundsException", shop -> shop.addBreakdown(4, 0, 1));
        add(7, "IllegalArgumentException", shop -> shop.addBreakdown(0, 401, 1));
        add(7, "IllegalStateException", shop -> shop.addBreakdown(2, 0, 1));
        add(8, "IndexOutOfBoundsException", shop -> shop.clearBreakdowns(4));
        add(22, "IndexOutOfBoundsException", shop -> shop.swap(4, 0));
        add(22, "NoSuchElementException", shop -> shop.swap(1, 2));
        add(23, "IndexOutOfBoundsException", shop -> shop.move(7, 0));
        add(23, "IllegalArgumentException", shop -> shop.move(1, 3));
        add(24, "IllegalArgumentException", shop -> shop.dispatch(4));
        add(25, "IllegalArgumentException", shop -> shop.repair(1000, 0));
        add(27, "IndexOutOfBoundsException", shop -> shop.reoptimize(4));
        add(30, "IllegalArgumentException", shop -> shop.tabu(21, 0));
    }

    private static void collectQuestions() {
        add(9, "IllegalArgumentException", shop -> shop.count(2));
        add(10, "IndexOutOfBoundsException", shop -> shop.property(7, 0));
        add(10, "IllegalArgumentException", shop -> shop.property(0, 6));
        add(11, "IndexOutOfBoundsException", shop -> shop.order(4, 0));
        add(11, "NoSuchElementException", shop -> shop.order(1, 3));
        add(12, "IndexOutOfBoundsException", shop -> shop.time(7, 0));
        add(12, "IllegalArgumentException", shop -> shop.time(0, 3));
        add(14, "IndexOutOfBoundsException", shop -> shop.slack(7));
        add(15, "IndexOutOfBoundsException", shop -> shop.completion(3));
        add(16, "IllegalArgumentException", shop -> shop.objective(5));
        add(17, "IndexOutOfBoundsException", shop -> shop.utilization(4));
        add(19, "NoSuchElementException", shop -> shop.path(20));
        add(21, "NoSuchElementException", shop -> shop.blockLength(20));
        add(26, "IndexOutOfBoundsException", shop -> shop.best(4));
        add(29, "NoSuchElementException", shop -> shop.bottleneck(4));
        add(32, "IndexOutOfBoundsException", shop -> shop.bound(4));
        add(36, "IllegalArgumentException", shop -> shop.failure(-1));
    }

    private static int promiseOf(String key) {
        return Integer.parseInt(key.substring(0, key.indexOf(' ')));
    }

    private static void refuse(String key, SetupJobShop shop) {
        Boundary.sentence(promiseOf(key), UNCHANGED);
        Boundary.due("the call", Check.answerOf(() -> REFUSED.get(key).apply(shop)),
                "throws " + key.substring(key.indexOf(' ') + 1));
    }

    private static void oneAfterTheOther() {
        SetupJobShop shop = Boundary.rich();
        for (int turn = 0; turn < 3; turn++) {
            for (String key : REFUSED.keySet()) {
                refuse(key, shop);
            }
        }
        Boundary.due("after all refused calls", Boundary.allAnswers(shop, true),
                Boundary.allAnswers(Boundary.rich(), true));
    }

    /** A refused call between two good ones changes the answer of none. */
    private static void beforeEachQuestion() {
        SetupJobShop twin = Boundary.rich();
        Object[] want = answers(twin, null);
        for (String key : REFUSED.keySet()) {
            SetupJobShop shop = Boundary.rich();
            Object[] got = answers(shop, key);
            for (int i = 0; i < want.length; i++) {
                Boundary.due("answer " + i + " behind it", got[i], want[i]);
            }
        }
    }

    private static Object[] answers(SetupJobShop shop, String refused) {
        Check.Call[] calls = {shop::makespan, () -> shop.slack(1), () -> shop.time(2, 1), () -> shop.path(0),
            () -> shop.blockLength(0), () -> shop.bottleneck(0), shop::tabuSteps, () -> shop.swap(3, 0),
            () -> shop.tabu(5, 2), () -> shop.repair(9, 0), () -> shop.best(1), shop::shiftBottlenecks,
            shop::lowerBound, () -> shop.objective(4), () -> shop.failure(3), shop::read, () -> shop.failure(1)};
        Object[] answers = new Object[calls.length];
        for (int i = 0; i < calls.length; i++) {
            if (refused != null) {
                refuse(refused, shop);
            }
            answers[i] = Check.answerOf(calls[i]);
        }
        return answers;
    }

    private static void failuresLeaveTheStateToo() {
        String want = Boundary.allAnswers(Boundary.crossing(), false);
        SetupJobShop shop = Boundary.crossing();
        for (int turn = 0; turn < 3; turn++) {
            Boundary.sentence(22, UNCHANGED);
            Boundary.refused("swap", Boundary.STATE, () -> shop.swap(0, 0));
            Boundary.sentence(23, UNCHANGED);
            Boundary.refused("move", Boundary.STATE, () -> shop.move(3, 0));
            Boundary.sentence(35, UNCHANGED);
            Check.type(shop, "1,1,1:0.1.0;1,1,1:0.1.0/0.1.0");
            Boundary.refused("read", Boundary.STATE, shop::read);
            Check.type(shop, "1,1,1:0.1.0;1,1,1:0.1.0/0.1.");
            Boundary.refused("read", Boundary.ARGUMENT, shop::read);
        }
        Boundary.sentence(38, UNCHANGED);
        Boundary.refused("restore", Boundary.STATE, () -> {
            shop.restore();
            return "restored";
        });
        Boundary.due("after all failures", Boundary.allAnswers(shop, false), want);
        Boundary.sentence(34, UNCHANGED);
        SetupJobShop text = Boundary.crossing();
        Check.type(text, "1,1,1:0.1.0" + ";1,1,1:0.1.0".repeat(2) + "/1.1.0".repeat(7) + "/1.");
        Boundary.refused("append", Boundary.STATE, () -> {
            text.append('x');
            return "appended";
        });
        Boundary.refused("read", Boundary.ARGUMENT, text::read);
        Boundary.due("the text is as long as before", Boundary.failure(text), "2 180");
        Boundary.sentence(2, UNCHANGED);
        SetupJobShop full = Boundary.full();
        Boundary.refused("the sixth job", Boundary.STATE, () -> full.addJob(0, 0, 0));
        Boundary.due("a full shop", Boundary.allAnswers(full, true), Boundary.allAnswers(Boundary.full(), true));
    }
}
