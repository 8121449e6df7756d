import java.util.ArrayList;
import java.util.Arrays;
import java.util.List;
import java.util.Random;

/** Long runs of calls on a SetupJobShop and a PlainShop at once; every answer must be the same. */
public final class RandomRunsTest {
    private static final String[] CHANGES = {"setJob", "setDuration", "setSetup", "addBreakdown", "clearBreakdowns",
        "swap", "swap", "move", "move", "dispatch", "repair", "repair", "reoptimize", "shiftBottlenecks", "tabu",
        "save", "restore", "addJob", "addOperation"};
    private static final String[] QUESTIONS = {"count", "property", "order", "time", "makespan", "slack",
        "completion", "objective", "utilization", "pathLength", "path", "blocks", "blockLength", "best",
        "bottleneck", "tabuSteps", "bound", "lowerBound", "failure"};

    private final Random random;
    private final int number;
    private final SetupJobShop shop = new SetupJobShop();
    private final PlainShop plain = new PlainShop();
    private final List<String> log = new ArrayList<>();

    private RandomRunsTest(int number) {
        this.number = number;
        this.random = new Random(number);
    }

    public static void main(String[] args) {
        int runs = args.length > 0 ? Integer.parseInt(args[0]) : 400;
        int from = args.length > 1 ? Integer.parseInt(args[1]) : 1;
        for (int number = from; number < from + runs; number++) {
            new RandomRunsTest(number).run();
        }
        Check.end();
    }

    private void run() {
        if (random.nextInt(4) > 0) {
            fill();
        }
        for (int turn = 0; turn < 60; turn++) {
            int kind = random.nextInt(100);
            if (kind < 42) {
                callRandomly(CHANGES[random.nextInt(CHANGES.length)]);
            } else if (kind < 92) {
                callRandomly(QUESTIONS[random.nextInt(QUESTIONS.length)]);
            } else {
                readText();
            }
        }
        askAll();
    }

    /** Makes a shop with many operations, since the searches are dull with few. */
    private void fill() {
        boolean full = random.nextInt(3) == 0;
        int jobs = full ? 5 : 2 + random.nextInt(4);
        int longest = random.nextBoolean() ? 30 : 4;
        for (int job = 0; job < jobs; job++) {
            call("addJob", random.nextInt(random.nextBoolean() ? 100 : 10), random.nextInt(201), random.nextInt(10));
        }
        for (int turn = 0; turn < 6 * jobs || full && shop.count(1) < 20; turn++) {
            call("addOperation", random.nextInt(jobs), random.nextInt(4), 1 + random.nextInt(longest),
                    random.nextInt(3));
        }
        for (int turn = 0; turn < random.nextInt(10); turn++) {
            call("setSetup", random.nextInt(3), random.nextInt(3), random.nextInt(10));
        }
        for (int turn = 0; turn < random.nextInt(8); turn++) {
            call("addBreakdown", random.nextInt(4), random.nextInt(100), 1 + random.nextInt(20));
        }
    }

    private void callRandomly(String name) {
        switch (name) {
            case "addJob" -> call(name, upTo(99), upTo(200), upTo(9));
            case "addOperation" -> call(name, upTo(4), upTo(3), 1 + upTo(29), upTo(2));
            case "setJob" -> {
                int what = upTo(2);
                call(name, upTo(4), what, upTo(what == 0 ? 99 : what == 1 ? 200 : 9));
            }
            case "setDuration" -> call(name, upTo(19), 1 + upTo(29));
            case "setSetup" -> call(name, upTo(2), upTo(2), upTo(9));
            case "addBreakdown" -> call(name, upTo(3), upTo(random.nextBoolean() ? 400 : 60), 1 + upTo(59));
            case "count" -> call(name, upTo(1));
            case "property" -> call(name, upTo(19), upTo(5));
            case "order" -> call(name, upTo(3), upTo(4));
            case "time" -> call(name, upTo(19), upTo(2));
            case "slack" -> call(name, upTo(19));
            case "completion" -> call(name, upTo(4));
            case "objective" -> call(name, upTo(4));
            case "path", "blockLength" -> call(name, upTo(8));
            case "swap" -> call(name, upTo(3), upTo(3));
            case "move" -> call(name, upTo(19), upTo(4));
            case "dispatch" -> call(name, upTo(3));
            case "repair" -> call(name, upTo(random.nextInt(8) == 0 ? 999 : 120), upTo(3));
            case "clearBreakdowns", "utilization", "best", "reoptimize", "bottleneck", "bound" ->
                call(name, upTo(3));
            case "tabu" -> call(name, upTo(20), upTo(9));
            case "failure" -> call(name, upTo(4));
            default -> call(name);
        }
    }

    /** Mostly a number from 0 to a limit, at times one just outside or far away. */
    private int upTo(int limit) {
        int kind = random.nextInt(120);
        if (kind < 116) {
            return random.nextInt(limit + 1);
        }
        return new int[] {-1, limit + 1, Integer.MAX_VALUE, Integer.MIN_VALUE}[kind - 116];
    }

    private void readText() {
        StringBuilder text = new StringBuilder();
        int jobs = 1 + random.nextInt(random.nextInt(5) == 0 ? 7 : 2);
        for (int job = 0; job < jobs; job++) {
            text.append(job > 0 ? ";" : "").append(textNumber(99)).append(',').append(textNumber(200)).append(',');
            text.append(textNumber(9)).append(':');
            int operations = 1 + random.nextInt(random.nextInt(5) == 0 ? 6 : 3);
            int machine = random.nextInt(4);
            for (int step = 0; step < operations; step++) {
                boolean straight = random.nextInt(12) > 0;
                text.append(step > 0 ? "/" : "").append(straight ? (machine + step) % 4 : random.nextInt(6));
                text.append('.').append(random.nextInt(20) == 0 ? 0 : textNumber(30)).append('.');
                text.append(random.nextInt(20) == 0 ? 3 : random.nextInt(3));
            }
        }
        if (random.nextInt(3) == 0) {
            spoil(text);
        }
        for (int i = 0; i < text.length(); i++) {
            append(text.charAt(i));
        }
        call("read");
        for (int depth = 0; depth < 5; depth++) {
            call("failure", depth);
        }
    }

    private String textNumber(int limit) {
        int kind = random.nextInt(60);
        if (kind < 57) {
            return Integer.toString(random.nextInt(limit + 1));
        }
        return Integer.toString(limit + (kind == 57 ? 1 : random.nextInt(1000)));
    }

    private void spoil(StringBuilder text) {
        String signs = "0123456789,.;:/ -a" + (char) 233 + (char) 0;
        int at = random.nextInt(text.length());
        switch (random.nextInt(4)) {
            case 0 -> text.setLength(at);
            case 1 -> text.deleteCharAt(at);
            case 2 -> text.insert(at, signs.charAt(random.nextInt(signs.length())));
            default -> text.setCharAt(at, signs.charAt(random.nextInt(signs.length())));
        }
    }

    private void append(char c) {
        compare("append(" + c + ")", "append", c);
    }

    private void call(String name, int... numbers) {
        compare(name + Arrays.toString(numbers), name, Arrays.stream(numbers).boxed().toArray());
    }

    private void compare(String what, String name, Object... values) {
        Object want = Check.answerByName(plain, name, values);
        Object got = Check.answerByName(shop, name, values);
        log.add(what + " -> " + got);
        Check.due("run " + number + ", call " + log.size() + ", " + what, got, want);
    }

    private void askAll() {
        for (int operation = 0; operation < 20; operation++) {
            call("slack", operation);
            for (int what = 0; what <= 5; what++) {
                call("property", operation, what);
                call("time", operation, what);
            }
            call("path", operation);
            call("blockLength", operation);
        }
        for (int machine = 0; machine < 4; machine++) {
            call("best", machine);
            call("bound", machine);
            call("utilization", machine);
            call("bottleneck", machine);
        }
        for (int what = 0; what <= 4; what++) {
            call("completion", what);
            call("objective", what);
            call("failure", what);
        }
        for (String name : new String[] {"makespan", "pathLength", "blocks", "tabuSteps", "lowerBound"}) {
            call(name);
        }
    }
}
