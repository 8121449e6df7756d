import java.io.IOException;
import java.util.ArrayList;
import java.util.Arrays;
import java.util.List;
import java.util.stream.Collectors;

/** Promises 22 to 25, the boundary cases: each test names its promise and its sentence. */
public final class BoundaryChangesTest {
    public static void main(String[] args) throws IOException {
        promise22Exchanges();
        promise22NoSuchMachine();
        promise22NoSuchPosition();
        promise22Cycle();
        promise22FailureOfACycle();
        promise23EveryMove();
        promise23NoSuchOperation();
        promise23NoSuchPosition();
        promise23Cycle();
        promise24LeastStart();
        promise24Preferences();
        promise24LowestJob();
        promise24AsIfAtTheEnd();
        promise24EmptyOrders();
        promise24RuleOutOfRange();
        promise25BeforeThisTime();
        promise25AllBeginnings();
        promise25NoCandidateBefore();
        promise25KeepTheStarts();
        promise25TimesAsAlways();
        promise25OutOfRange();
        promise25LateOperations();
        Boundary.end(22, 25);
    }

    private static int[] ones(int size) {
        int[] ones = new int[size];
        Arrays.fill(ones, 1);
        return ones;
    }

    /** Job j goes from machine j to machine j + 1, the last one back to machine 0: a swap there closes a ring. */
    private static SetupJobShop ring() {
        return Boundary.shopOf("0,0,0:0.1.0/1.1.0;0,0,0:1.1.0/2.1.0;0,0,0:2.1.0/3.1.0;0,0,0:3.1.0/0.1.0");
    }

    /**
     * Operations 2 to 5 cross on the machines 0 and 1; operation 0 is alone on machine 3, and operation 1 stands before
     * the others on machine 0.
     */
    private static SetupJobShop beside() {
        return Boundary.shopOf("0,0,0:3.1.0;0,0,0:0.1.0;0,0,0:0.1.0/1.1.0;0,0,0:1.1.0/0.1.0");
    }

    private static String failureAfter(SetupJobShop shop, Check.Call call) {
        Boundary.refused("a cycle", Boundary.STATE, call);
        return Boundary.failure(shop);
    }

    // Promise 22.

    private static void promise22Exchanges() {
        Boundary.sentence(22, "Exchanges two neighbours in the order of a machine.");
        String[] want = {"1 0 2 3 4", "0 2 1 3 4", "0 1 3 2 4", "0 1 2 4 3"};
        for (int position = 0; position < 4; position++) {
            SetupJobShop shop = Boundary.row(3, 1, 2, 3, 4, 5);
            shop.swap(3, position);
            Boundary.due("swap at " + position, Boundary.order(shop, 3), want[position]);
            shop.swap(3, position);
            Boundary.due("and back", Boundary.order(shop, 3), "0 1 2 3 4");
        }
        Boundary.sentence(22, "Returns the makespan afterwards.");
        SetupJobShop shop = Boundary.shopOf("0,0,0:0.5.0;9,0,0:0.1.0");
        Boundary.due("greater", shop.swap(0, 0), 15);
        Boundary.due("less", shop.swap(0, 0), 10);
    }

    private static void promise22NoSuchMachine() {
        Boundary.sentence(22, "Throws `IndexOutOfBoundsException` if there is no such machine");
        Boundary.due("machine 0", Boundary.row(0, 1, 2).swap(0, 0), 3);
        Boundary.due("machine 3", Boundary.row(3, 1, 2).swap(3, 0), 3);
        Boundary.refused("machine 4", Boundary.INDEX, Boundary::full, shop -> shop.swap(4, 0));
        for (int far : Boundary.FAR) {
            Boundary.refused("machine " + far, Boundary.INDEX, Boundary::full, shop -> shop.swap(far, 0));
        }
        Boundary.sentence(22, "the one that is listed first determines the exception.");
        Boundary.refused("machine before position", Boundary.INDEX, Boundary::rich, shop -> shop.swap(4, 9));
        Boundary.refused("machine before position", Boundary.INDEX, Boundary::rich, shop -> shop.swap(-1, -1));
    }

    private static void promise22NoSuchPosition() {
        Boundary.sentence(22, "Throws `NoSuchElementException` if this position or the next one does not exist");
        for (int size = 0; size <= 5; size++) {
            SetupJobShop shop = Boundary.row(1, ones(size));
            for (int position = -1; position <= size; position++) {
                int at = position;
                boolean both = position >= 0 && position + 1 < size;
                Boundary.due(position + " of " + size, Check.answerOf(() -> shop.swap(1, at)),
                        both ? (Object) size : "throws NoSuchElementException");
            }
        }
        Boundary.refused("the last position", Boundary.ELEMENT, Boundary::full, shop -> shop.swap(3, 4));
        Boundary.refused("behind the last position", Boundary.ELEMENT, Boundary::full, shop -> shop.swap(3, 5));
        Boundary.refused("a single operation", Boundary.ELEMENT, Boundary::rich, shop -> shop.swap(0, 0));
        for (int far : Boundary.FAR) {
            Boundary.refused("position " + far, Boundary.ELEMENT, Boundary::rich, shop -> shop.swap(1, far));
        }
    }

    private static void promise22Cycle() {
        Boundary.sentence(22, "Throws `IllegalStateException` if there would be a cycle");
        Boundary.refusedWithFailure("a cycle of two jobs", Boundary.STATE, Boundary::crossing, shop -> shop.swap(0, 0));
        Boundary.refusedWithFailure("a cycle of four jobs", Boundary.STATE, BoundaryChangesTest::ring,
                shop -> shop.swap(0, 0));
        SetupJobShop shop = Boundary.crossing();
        Boundary.due("the other machine first", shop.swap(1, 0), 10);
        Boundary.due("then there is no cycle", shop.swap(0, 0), 18);
        Boundary.refused("but now for the other machine", Boundary.STATE, () -> shop.swap(1, 0));
        SetupJobShop parallel = Boundary.shopOf("0,0,0:0.1.0/1.1.0;0,0,0:0.1.0/1.1.0");
        Boundary.due("the same direction is no cycle", parallel.swap(0, 0), 4);
        Boundary.sentence(22, "Calls that would lead to a cycle fail, so that the schedule always exists.");
        SetupJobShop refused = Boundary.crossing();
        for (int turn = 0; turn < 3; turn++) {
            Boundary.refused("again and again", Boundary.STATE, () -> refused.swap(0, 0));
            Boundary.due("the schedule is still there", refused.makespan(), 18);
        }
        SetupJobShop open = ring();
        Boundary.due("a ring with a gap is no cycle", open.swap(2, 0) > 0 && open.swap(0, 0) > 0, true);
    }

    private static void promise22FailureOfACycle() {
        Boundary.sentence(22, "Code 1: the change would lead to a cycle; its cause has the code 100 plus the lowest "
                + "number of an operation for which the times are not defined, and the cause of this has as code the "
                + "number of these operations.");
        SetupJobShop all = ring();
        Boundary.due("all operations", failureAfter(all, () -> all.swap(0, 0)), "1 100 8");
        SetupJobShop beside = beside();
        Boundary.due("some before the cycle", failureAfter(beside, () -> beside.swap(0, 1)), "1 102 4");
        beside.move(1, 2);
        Boundary.due("the lowest one behind the cycle", failureAfter(beside, () -> beside.swap(0, 0)), "1 101 5");
        SetupJobShop late = Boundary.shopOf("0,0,0:0.1.0/1.1.0/3.1.0;0,0,0:1.1.0/0.1.0/2.1.0;0,0,0:3.1.0");
        Boundary.due("jobs and orders behind the cycle", failureAfter(late, () -> late.swap(0, 0)), "1 100 7");
        Boundary.sentence(22, "The latest failure is kept until the next one, whatever other calls there are");
        late.swap(1, 0);
        Check.answerOf(() -> late.swap(0, 5));
        Check.answerOf(() -> late.swap(9, 0));
        Boundary.due("after other calls", Boundary.failure(late), "1 100 7");
    }

    // Promise 23.

    private static void promise23EveryMove() {
        Boundary.sentence(23, "Moves an operation to a position of the order of its machine; the others keep their "
                + "order.");
        for (int size = 1; size <= 5; size++) {
            for (int operation = 0; operation < size; operation++) {
                for (int position = 0; position < size; position++) {
                    SetupJobShop shop = Boundary.row(2, ones(size));
                    List<Integer> want = new ArrayList<>();
                    for (int other = 0; other < size; other++) {
                        want.add(other);
                    }
                    want.remove(operation);
                    want.add(position, operation);
                    Boundary.due("makespan", shop.move(operation, position), size);
                    Boundary.due(operation + " to " + position, Boundary.order(shop, 2),
                            want.stream().map(String::valueOf).collect(Collectors.joining(" ")));
                    Boundary.due("its position", shop.property(operation, 5), position);
                }
            }
        }
        Boundary.sentence(23, "Returns the makespan afterwards.");
        SetupJobShop shop = Boundary.shopOf("0,0,0:0.5.0;9,0,0:0.1.0");
        Boundary.due("its own position", shop.move(1, 1), 10);
        Boundary.due("greater", shop.move(1, 0), 15);
        Boundary.due("less", shop.move(1, 1), 10);
    }

    private static void promise23NoSuchOperation() {
        Boundary.sentence(23, "Throws `IndexOutOfBoundsException` if there is no such operation");
        SetupJobShop empty = new SetupJobShop();
        empty.addJob(0, 0, 0);
        Boundary.refused("operation 0 of none", Boundary.INDEX, () -> empty.move(0, 0));
        Boundary.due("operation 19 of twenty", Boundary.full().move(19, 4), Boundary.full().makespan());
        Boundary.refused("operation 20 of twenty", Boundary.INDEX, Boundary::full, shop -> shop.move(20, 0));
        Boundary.refused("operation 7 of seven", Boundary.INDEX, Boundary::rich, shop -> shop.move(7, 0));
        for (int far : Boundary.FAR) {
            Boundary.refused("operation " + far, Boundary.INDEX, Boundary::rich, shop -> shop.move(far, 0));
        }
        Boundary.sentence(23, "the one that is listed first determines the exception.");
        Boundary.refused("operation before position", Boundary.INDEX, Boundary::rich, shop -> shop.move(7, 9));
        Boundary.refused("operation before position", Boundary.INDEX, Boundary::rich, shop -> shop.move(-1, -1));
    }

    private static void promise23NoSuchPosition() {
        Boundary.sentence(23, "Throws `IllegalArgumentException` if there is no such position");
        for (int size = 1; size <= 5; size++) {
            SetupJobShop shop = Boundary.row(1, ones(size));
            int behind = size;
            Boundary.due("the last position", shop.move(0, size - 1), size);
            Boundary.refused("behind the last of " + size, Boundary.ARGUMENT, () -> shop.move(0, behind));
        }
        Boundary.refused("position 5 of five", Boundary.ARGUMENT, Boundary::full, shop -> shop.move(0, 5));
        Boundary.refused("position 1 of one", Boundary.ARGUMENT, Boundary::rich, shop -> shop.move(3, 1));
        for (int far : Boundary.FAR) {
            Boundary.refused("position " + far, Boundary.ARGUMENT, Boundary::rich, shop -> shop.move(1, far));
        }
        Boundary.sentence(23, "the one that is listed first determines the exception.");
        Boundary.refused("position before cycle", Boundary.ARGUMENT, Boundary::crossing, shop -> shop.move(0, 2));
    }

    private static void promise23Cycle() {
        Boundary.sentence(23, "Throws `IllegalStateException` if there would be a cycle");
        Boundary.refusedWithFailure("back", Boundary.STATE, Boundary::crossing, shop -> shop.move(0, 1));
        Boundary.refusedWithFailure("forth", Boundary.STATE, Boundary::crossing, shop -> shop.move(3, 0));
        Boundary.refusedWithFailure("over two others, back", Boundary.STATE, BoundaryChangesTest::beside,
                shop -> shop.move(5, 0));
        SetupJobShop behind = beside();
        behind.move(1, 2);
        Boundary.refusedWithFailure("over two others, forth", Boundary.STATE, () -> {
            SetupJobShop shop = beside();
            shop.move(1, 2);
            return shop;
        }, shop -> shop.move(2, 2));
        Boundary.due("its codes", failureAfter(behind, () -> behind.move(2, 2)), "1 101 5");
        Boundary.due("no cycle", behind.move(1, 1), 4);
        SetupJobShop own = Boundary.crossing();
        Boundary.due("its own position is no cycle", own.move(0, 0), 18);
        Boundary.sentence(23, "A call of swap or move that would lead to a cycle");
        Boundary.due("no failure yet", Boundary.failure(own), "0");
        Check.answerOf(() -> own.move(0, 2));
        Check.answerOf(() -> own.move(4, 0));
        Boundary.due("other refusals are none", Boundary.failure(own), "0");
        Boundary.due("a cycle is one", failureAfter(own, () -> own.move(0, 1)), "1 100 4");
    }

    // Promise 24.

    private static void promise24LeastStart() {
        Boundary.sentence(24, "The candidate with the least start is put at the end of the order of its machine.");
        for (int rule = 0; rule <= 3; rule++) {
            SetupJobShop shop = Boundary.shopOf("1,0,9:0.1.0/1.30.0;0,9,0:0.2.0");
            Boundary.due("makespan", shop.dispatch(rule), 33);
            Boundary.due("start 0 before start 1, rule " + rule, Boundary.order(shop, 0), "2 0");
        }
    }

    /** At first all three jobs could start at 0. */
    private static void promise24Preferences() {
        Boundary.sentence(24, "Rule 0 prefers the least duration, rule 1 the greatest sum of the durations of the "
                + "candidate and the later operations of its job, rule 2 the least due time, and rule 3 has no "
                + "preference.");
        String[] want = {"2 0 1", "2 0 1", "1 2 0", "0 1 2"};
        for (int rule = 0; rule <= 3; rule++) {
            SetupJobShop shop = Boundary.shopOf("0,5,0:0.4.0;0,4,0:0.4.0;0,4,0:0.3.0/1.2.0");
            shop.dispatch(rule);
            Boundary.due("rule " + rule, Boundary.order(shop, 0), want[rule]);
        }
        SetupJobShop shop = Boundary.shopOf("0,5,0:0.4.0;0,4,0:0.4.0;0,4,0:0.3.0/1.1.0");
        shop.dispatch(1);
        Boundary.due("equal sums", Boundary.order(shop, 0), "0 1 2");
        SetupJobShop later = Boundary.shopOf("0,0,0:1.5.0/0.3.0;5,0,0:0.4.0;5,0,0:0.5.0");
        later.dispatch(1);
        Boundary.due("earlier operations count for nothing", Boundary.order(later, 0), "3 2 1");
    }

    private static void promise24LowestJob() {
        Boundary.sentence(24, "Of several such candidates, it is the one preferred by the rule, and of several of "
                + "these, the one of the job with the lowest number.");
        for (int rule = 0; rule <= 3; rule++) {
            SetupJobShop shop = new SetupJobShop();
            for (int job = 0; job < 5; job++) {
                shop.addJob(0, 7, 0);
            }
            for (int job = 4; job >= 0; job--) {
                shop.addOperation(job, 0, 3, 0);
            }
            shop.dispatch(rule);
            Boundary.due("the job, not the operation, rule " + rule, Boundary.order(shop, 0), "4 3 2 1 0");
        }
    }

    private static void promise24AsIfAtTheEnd() {
        Boundary.sentence(24, "In each step, the start of each candidate is computed as if it were put at the end of "
                + "the order of its machine");
        for (int setup = 0; setup <= 2; setup++) {
            SetupJobShop shop = Boundary.shopOf("0,0,0:0.2.0;0,0,0:0.5.1;0,0,0:0.5.2");
            shop.setSetup(0, 1, setup);
            shop.setSetup(0, 2, 1);
            shop.dispatch(3);
            Boundary.due("setup " + setup, Boundary.order(shop, 0), setup <= 1 ? "0 1 2" : "0 2 1");
        }
        for (int first = 6; first <= 7; first++) {
            SetupJobShop shop = Boundary.shopOf("0,0,0:0.2.0;0,0,0:0.5.1;0,0,0:0.4.2");
            shop.addBreakdown(0, first, 1);
            shop.dispatch(3);
            Boundary.due("breakdown at " + first, Boundary.order(shop, 0), first == 6 ? "0 2 1" : "0 1 2");
        }
    }

    private static void promise24EmptyOrders() {
        Boundary.sentence(24, "Builds all orders anew by dispatching, from empty orders.");
        Boundary.due("no jobs", new SetupJobShop().dispatch(3), 0);
        SetupJobShop idle = new SetupJobShop();
        idle.addJob(99, 0, 0);
        Boundary.due("no operations", idle.dispatch(0), 0);
        SetupJobShop full = Boundary.full();
        int span = full.dispatch(0);
        String orders = Boundary.order(full, 0) + ", " + Boundary.order(full, 3);
        full.move(16, 0);
        full.move(19, 0);
        Boundary.due("whatever the orders were", full.dispatch(0), span);
        Boundary.due("the same orders", Boundary.order(full, 0) + ", " + Boundary.order(full, 3), orders);
        Boundary.due("nothing is lost", full.order(2, 4) >= 0 && full.order(1, 4) >= 0, true);
        Boundary.sentence(24, "Its candidates are, for each job, the first operation that is in no order yet.");
        SetupJobShop some = Boundary.shopOf("0,0,0:0.9.0/1.1.0;0,0,0:1.5.0");
        some.addJob(0, 0, 0);
        Boundary.due("makespan", some.dispatch(0), 10);
        Boundary.due("the second operation only when the first one is placed", Boundary.order(some, 1), "2 1");
    }

    private static void promise24RuleOutOfRange() {
        Boundary.sentence(24, "Throws `IllegalArgumentException` if the rule is out of range");
        Boundary.refused("rule 4", Boundary.ARGUMENT, Boundary::rich, shop -> shop.dispatch(4));
        for (int far : Boundary.FAR) {
            Boundary.refused("rule " + far, Boundary.ARGUMENT, Boundary::rich, shop -> shop.dispatch(far));
        }
        SetupJobShop empty = new SetupJobShop();
        Boundary.refused("rule 4 without operations", Boundary.ARGUMENT, () -> empty.dispatch(4));
    }

    // Promise 25.

    /** The operations start at 0, 5, 8 and 12. */
    private static void promise25BeforeThisTime() {
        Boundary.sentence(25, "The operations that start before this time stay at the beginnings of the orders, as "
                + "they are");
        int[] times = {0, 1, 5, 6, 8, 9, 12, 13, 14, 999};
        String[] want = {"3 1 2 0", "0 3 1 2", "0 3 1 2", "0 1 3 2", "0 1 3 2", "0 1 2 3", "0 1 2 3", "0 1 2 3",
            "0 1 2 3", "0 1 2 3"};
        for (int i = 0; i < times.length; i++) {
            SetupJobShop shop = Boundary.row(0, 5, 3, 4, 2);
            shop.repair(times[i], 0);
            Boundary.due("time " + times[i], Boundary.order(shop, 0), want[i]);
        }
        SetupJobShop backwards = Boundary.row(0, 5, 3, 4, 2);
        backwards.move(3, 0);
        backwards.move(2, 0);
        backwards.repair(5, 3);
        Boundary.due("as they are, not by their numbers", Boundary.order(backwards, 0), "2 3 0 1");
    }

    private static void promise25AllBeginnings() {
        Boundary.sentence(25, "The operations that start before this time stay");
        for (int time = 0; time <= 60; time++) {
            for (int rule = 0; rule <= 3; rule++) {
                SetupJobShop shop = Boundary.rich();
                String[] begun = {"", "", "", ""};
                for (int machine = 0; machine < 4; machine++) {
                    for (String each : Boundary.order(shop, machine).split(" ")) {
                        begun[machine] += shop.time(Integer.parseInt(each), 1) < time ? each + " " : "";
                    }
                }
                Boundary.due("makespan", shop.repair(time, rule), shop.makespan());
                for (int machine = 0; machine < 4; machine++) {
                    Boundary.due("the beginning of machine " + machine + " at " + time,
                            (Boundary.order(shop, machine) + " ").startsWith(begun[machine]), true);
                }
            }
        }
    }

    /** In the orders 1, 0 the operations start at 3 and 4, so nothing stays at the times 2 and 3. */
    private static void promise25NoCandidateBefore() {
        Boundary.sentence(25, "from there on the orders are built by dispatching, where no candidate starts before this "
                + "time");
        int[][] cases = {{0, 0}, {2, 0}, {3, 1}, {4, 1}};
        for (int[] each : cases) {
            SetupJobShop shop = Boundary.shopOf("0,0,0:0.9.0;3,0,0:0.1.0");
            shop.swap(0, 0);
            shop.repair(each[0], 0);
            Boundary.due("time " + each[0], shop.order(0, 0), each[1]);
        }
        SetupJobShop broken = Boundary.shopOf("0,0,0:0.9.0;5,0,0:0.1.0");
        broken.swap(0, 0);
        broken.addBreakdown(0, 3, 2);
        broken.repair(3, 0);
        Boundary.due("both at 5, behind the breakdown", Boundary.order(broken, 0), "1 0");
        broken.repair(2, 0);
        Boundary.due("9 units don't fit before the breakdown", Boundary.order(broken, 0), "1 0");
        broken.setDuration(0, 1);
        broken.repair(2, 2);
        Boundary.due("one unit fits", Boundary.order(broken, 0), "0 1");
    }

    /** Operation 0 starts at 10 as a candidate, so operation 1 at 12, behind operation 2 at 11. */
    private static void promise25KeepTheStarts() {
        Boundary.sentence(25, "the operations of given beginnings keep their present starts, and the others keep the "
                + "starts that they had as candidates.");
        SetupJobShop shop = Boundary.shopOf("0,0,0:0.2.0/1.1.0;11,0,0:1.1.0;10,0,0:0.1.0");
        shop.swap(0, 0);
        Boundary.due("makespan", shop.repair(10, 3), 13);
        Boundary.due("machine 0", Boundary.order(shop, 0), "0 3");
        Boundary.due("machine 1", Boundary.order(shop, 1), "2 1");
        SetupJobShop kept = Boundary.shopOf("0,0,0:0.8.0/1.1.0;9,0,0:1.1.0;7,0,0:1.1.0");
        kept.repair(1, 3);
        Boundary.due("operation 0 stays until 8", Boundary.order(kept, 1), "3 1 2");
        SetupJobShop setup = Boundary.shopOf("0,0,0:0.8.0;0,0,0:0.2.1;0,0,0:0.2.2");
        setup.setSetup(0, 1, 5);
        setup.setSetup(2, 1, 1);
        setup.repair(8, 3);
        Boundary.due("a setup behind the beginning", Boundary.order(setup, 0), "0 2 1");
    }

    private static void promise25TimesAsAlways() {
        Boundary.sentence(25, "Afterwards the times of all operations are computed as always.");
        SetupJobShop shop = Boundary.shopOf("0,0,0:0.9.0;3,0,0:0.1.0");
        shop.swap(0, 0);
        Boundary.due("makespan", shop.repair(3, 3), 10);
        Boundary.due("order", Boundary.order(shop, 0), "0 1");
        Boundary.due("before the time of the repair", shop.time(0, 1), 0);
    }

    private static void promise25OutOfRange() {
        Boundary.sentence(25, "Throws `IllegalArgumentException` if an argument is out of range");
        Boundary.due("time 0, rule 0", Boundary.row(0, 1, 2).repair(0, 0), 3);
        Boundary.due("time 999, rule 3", Boundary.row(0, 1, 2).repair(999, 3), 3);
        for (int far : new int[] {-1, 1000, Integer.MIN_VALUE, Integer.MAX_VALUE, -1024, 1024, 65536}) {
            Boundary.refused("time " + far, Boundary.ARGUMENT, Boundary::rich, shop -> shop.repair(far, 0));
            Boundary.refused("both", Boundary.ARGUMENT, Boundary::rich, shop -> shop.repair(far, far));
        }
        Boundary.refused("rule 4", Boundary.ARGUMENT, Boundary::rich, shop -> shop.repair(0, 4));
        Boundary.refused("rule 4 when all stays", Boundary.ARGUMENT, Boundary::rich, shop -> shop.repair(999, 4));
        for (int far : Boundary.FAR) {
            Boundary.refused("rule " + far, Boundary.ARGUMENT, Boundary::rich, shop -> shop.repair(5, far));
        }
        SetupJobShop empty = new SetupJobShop();
        Boundary.due("no operations", empty.repair(0, 0), 0);
        Boundary.refused("time 1000 without operations", Boundary.ARGUMENT, () -> empty.repair(1000, 0));
    }

    /** The breakdowns hold back the first operation until 366 and the second one until 460; the last ends at 1066. */
    private static void promise25LateOperations() {
        Boundary.sentence(25, "the time, 0 to 999");
        for (int rule = 0; rule <= 3; rule++) {
            SetupJobShop shop = new SetupJobShop();
            shop.setSetup(0, 0, 9);
            for (int job = 0; job < 5; job++) {
                shop.addJob(99, 0, 0);
                for (int step = 0; step < 4; step++) {
                    shop.addOperation(job, job % 2 == 0 ? step : 3 - step, 30, 0);
                }
            }
            for (int number = 0; number < 3; number++) {
                shop.addBreakdown(0, 128 + 89 * number, 60);
            }
            shop.addBreakdown(1, 400, 60);
            Boundary.due("makespan", shop.makespan(), 1066);
            Boundary.due("starts behind 999", shop.time(18, 1), 1006);
            Boundary.due("makespan afterwards", shop.repair(999, rule), 1066);
            Boundary.due("the late one is not lost", Boundary.order(shop, 3), "3 4 11 12 19");
        }
    }
}
