import java.io.IOException;
import java.util.Arrays;

/** Promises 26 to 31, the boundary cases: each test names its promise and its sentence. */
public final class BoundarySearchesTest {
    public static void main(String[] args) throws IOException {
        promise26FewAndMany();
        promise26NoCycle();
        promise26NothingChanges();
        promise26NoSuchMachine();
        promise27NumberOfPositions();
        promise27LexicographicallyLeast();
        promise27NoCycle();
        promise27NoSuchMachine();
        promise28NoOperations();
        promise28GreatestValue();
        promise28LowestMachine();
        promise28LeastOrder();
        promise28AllOfThemOnce();
        promise28ClosedBefore();
        promise28BuildsAnew();
        promise29Indices();
        promise29LatestCall();
        promise30NoSteps();
        promise30NoCandidate();
        promise30Tenure();
        promise30PathOfThisStep();
        promise30UnlessLess();
        promise30LowestMachineAndPosition();
        promise30ReachedFirst();
        promise30NoCycle();
        promise30OutOfRange();
        promise31NoSuchCall();
        promise31LatestCall();
        Boundary.end(26, 31);
    }

    /** Operations of one unit that can start at size - 1, .., 1, 0: only the last one of all orders has no gap. */
    private static SetupJobShop reversed(int size) {
        SetupJobShop shop = new SetupJobShop();
        for (int job = 0; job < size; job++) {
            shop.addJob(size - 1 - job, 0, 0);
            shop.addOperation(job, 2, 1, 0);
        }
        return shop;
    }

    /** Families 0, 1 and 2; going up takes 9, and from 2 to 0, going down takes nothing. */
    private static SetupJobShop circle() {
        SetupJobShop shop = Boundary.shopOf("0,0,0:0.1.0;0,0,0:0.1.1;0,0,0:0.1.2");
        shop.setSetup(0, 1, 9);
        shop.setSetup(1, 2, 9);
        shop.setSetup(2, 0, 9);
        return shop;
    }

    // Promise 26.

    private static void promise26FewAndMany() {
        Boundary.sentence(26, "Returns the makespan that would be reached by reoptimizing a machine.");
        Boundary.due("no operations", new SetupJobShop().best(0), 0);
        SetupJobShop other = Boundary.row(2, 7, 8);
        Boundary.due("none on this machine", other.best(1), 15);
        for (int size = 1; size <= 5; size++) {
            SetupJobShop shop = reversed(size);
            Boundary.due("present makespan", shop.makespan(), 2 * size - 1);
            Boundary.due("the last one of all orders", shop.best(2), size);
        }
    }

    private static void promise26NoCycle() {
        Boundary.sentence(26, "the order of its operations that has no cycle and leads to the least makespan, while all "
                + "other orders stay");
        SetupJobShop shop = Boundary.crossing();
        Boundary.due("the present order alone has no cycle", shop.best(0), 18);
        Boundary.due("the other machine", shop.best(1), 10);
        Boundary.due("an order with a cycle is no failure", Boundary.failure(shop), "0");
    }

    private static void promise26NothingChanges() {
        Boundary.sentence(26, "Nothing changes.");
        String before = Boundary.allAnswers(Boundary.rich(), true);
        SetupJobShop shop = Boundary.rich();
        shop.move(1, 0);
        shop.move(1, 1);
        SetupJobShop twin = Boundary.rich();
        twin.move(1, 0);
        twin.move(1, 1);
        for (int machine = 0; machine < 4; machine++) {
            shop.best(machine);
        }
        Boundary.due("after a move", Boundary.allAnswers(shop, true), Boundary.allAnswers(twin, true));
        SetupJobShop best = Boundary.rich();
        best.best(1);
        Boundary.due("all answers", Boundary.allAnswers(best, true), before);
        SetupJobShop five = reversed(5);
        five.best(2);
        Boundary.due("the order", Boundary.order(five, 2), "0 1 2 3 4");
    }

    private static void promise26NoSuchMachine() {
        Boundary.sentence(26, "Throws `IndexOutOfBoundsException` if there is no such machine");
        Boundary.refused("machine 4", Boundary.INDEX, Boundary::rich, shop -> shop.best(4));
        for (int far : Boundary.FAR) {
            Boundary.refused("machine " + far, Boundary.INDEX, Boundary::rich, shop -> shop.best(far));
        }
    }

    // Promise 27.

    private static void promise27NumberOfPositions() {
        Boundary.sentence(27, "Returns the number of positions of its order with another operation than before.");
        Boundary.due("no operations", new SetupJobShop().reoptimize(3), 0);
        int[] changed = {0, 0, 2, 2, 4, 4};
        String[] want = {"", "0", "1 0", "2 1 0", "3 2 1 0", "4 3 2 1 0"};
        for (int size = 1; size <= 5; size++) {
            SetupJobShop shop = reversed(size);
            Boundary.due("the middle one may stay", shop.reoptimize(2), changed[size]);
            Boundary.due("order", Boundary.order(shop, 2), want[size]);
            Boundary.due("makespan", shop.makespan(), size);
            Boundary.due("again", shop.reoptimize(2), 0);
            Boundary.due("another machine", shop.reoptimize(3), 0);
        }
        SetupJobShop five = Boundary.row(0, 1, 1, 1, 1, 1);
        five.setJob(0, 0, 4);
        Boundary.due("all five positions", five.reoptimize(0), 5);
        Boundary.due("the first one last", Boundary.order(five, 0), "1 2 3 4 0");
    }

    /** Operation 12 alone decides the makespan, so every order of machine 0 leads to the least one. */
    private static void promise27LexicographicallyLeast() {
        Boundary.sentence(27, "of several such orders, it is the lexicographically least one, as a sequence of "
                + "operation numbers");
        SetupJobShop shop = new SetupJobShop();
        for (int job = 0; job < 5; job++) {
            shop.addJob(0, 0, 0);
        }
        shop.addOperation(3, 0, 1, 0);
        for (int operation = 1; operation <= 8; operation++) {
            shop.addOperation((operation - 1) / 2, 1 + operation % 2, 1, 0);
        }
        shop.addOperation(2, 0, 1, 0);
        shop.addOperation(1, 0, 1, 0);
        shop.addOperation(0, 0, 1, 0);
        shop.setJob(4, 0, 99);
        shop.addOperation(4, 3, 1, 0);
        shop.move(11, 0);
        shop.move(10, 1);
        shop.move(9, 1);
        Boundary.due("before", Boundary.order(shop, 0), "11 9 10 0");
        Boundary.due("the two in the middle stay", shop.reoptimize(0), 2);
        Boundary.due("as numbers, not as texts", Boundary.order(shop, 0), "0 9 10 11");
        SetupJobShop equal = Boundary.row(1, 1, 1);
        equal.swap(1, 0);
        Boundary.due("an equally good order gives way", equal.reoptimize(1), 2);
        Boundary.due("to the least one", Boundary.order(equal, 1), "0 1");
        SetupJobShop circle = circle();
        circle.reoptimize(0);
        Boundary.due("the least one of 0 2 1, 1 0 2 and 2 1 0", Boundary.order(circle, 0), "0 2 1");
    }

    private static void promise27NoCycle() {
        Boundary.sentence(27, "the order of its operations that has no cycle");
        SetupJobShop shop = Boundary.crossing();
        shop.swap(1, 0);
        shop.swap(0, 0);
        Boundary.due("changed", shop.reoptimize(1), 0);
        Boundary.due("the lexicographically least one would be a cycle", Boundary.order(shop, 1), "2 1");
        Boundary.due("no failure", Boundary.failure(shop), "0");
    }

    private static void promise27NoSuchMachine() {
        Boundary.sentence(27, "Throws `IndexOutOfBoundsException` if there is no such machine");
        Boundary.refused("machine 4", Boundary.INDEX, Boundary::rich, shop -> shop.reoptimize(4));
        for (int far : Boundary.FAR) {
            Boundary.refused("machine " + far, Boundary.INDEX, Boundary::rich, shop -> shop.reoptimize(far));
        }
    }

    // Promise 28.

    private static String closed(SetupJobShop shop) {
        return shop.bottleneck(0) + " " + shop.bottleneck(1) + " " + shop.bottleneck(2) + " " + shop.bottleneck(3);
    }

    private static void promise28NoOperations() {
        Boundary.sentence(28, "At first, all machines are open. As long as there are open machines");
        SetupJobShop shop = new SetupJobShop();
        Boundary.due("no jobs", shop.shiftBottlenecks(), 0);
        Boundary.due("all four machines are closed", closed(shop), "0 1 2 3");
        shop.addJob(99, 0, 0);
        Boundary.due("no operations", shop.shiftBottlenecks(), 0);
        SetupJobShop one = Boundary.row(3, 5);
        Boundary.due("one operation", one.shiftBottlenecks(), 5);
        Boundary.due("all reach 5", closed(one), "0 1 2 3");
    }

    /**
     * Machine 0 alone could reach 14, with the order 2, 0; machine 1 alone 15, with either order. With the order 1, 3
     * there, machine 0 then reaches 19.
     */
    private static void promise28GreatestValue() {
        Boundary.sentence(28, "the open machine with the greatest such value, of several the lowest one, is closed");
        SetupJobShop shop = Boundary.shopOf("0,0,0:0.5.0/1.1.0;0,0,0:0.5.0/1.9.0");
        Boundary.due("makespan", shop.shiftBottlenecks(), 19);
        Boundary.due("closed", closed(shop), "1 0 2 3");
        Boundary.due("machine 0", Boundary.order(shop, 0), "0 2");
        Boundary.due("machine 1", Boundary.order(shop, 1), "1 3");
        Boundary.sentence(28, "The order of an open machine does not exist: its operations have no predecessors on the "
                + "machine, and may overlap.");
        SetupJobShop overlap = Boundary.shopOf("0,0,0:0.9.0;0,0,0:0.9.0;0,0,0:3.10.0;0,0,0:3.9.0");
        overlap.shiftBottlenecks();
        Boundary.due("machine 3 takes 19, machine 0 18, and the others wait at 19", closed(overlap), "3 0 1 2");
    }

    private static void promise28LowestMachine() {
        Boundary.sentence(28, "of several the lowest one");
        SetupJobShop shop = Boundary.shopOf("0,0,0:3.9.0;0,0,0:3.9.0;0,0,0:1.9.0;0,0,0:1.9.0");
        shop.shiftBottlenecks();
        Boundary.due("1 and 3 take 18, and then all do", closed(shop), "1 0 2 3");
        shop.setDuration(0, 10);
        shop.shiftBottlenecks();
        Boundary.due("one unit more", closed(shop), "3 0 1 2");
    }

    private static void promise28LeastOrder() {
        Boundary.sentence(28, "is closed with the order for which it is reached, of several the lexicographically least "
                + "one");
        SetupJobShop shop = circle();
        shop.swap(0, 0);
        Boundary.due("makespan", shop.shiftBottlenecks(), 3);
        Boundary.due("the least one of 0 2 1, 1 0 2 and 2 1 0", Boundary.order(shop, 0), "0 2 1");
        SetupJobShop five = reversed(5);
        Boundary.due("makespan of the last order", five.shiftBottlenecks(), 5);
        Boundary.due("the last order", Boundary.order(five, 2), "4 3 2 1 0");
    }

    private static void promise28AllOfThemOnce() {
        Boundary.sentence(28, "then all machines that were closed before are reoptimized once");
        SetupJobShop first = Boundary.shopOf("0,0,0:3.3.0/0.6.0;1,0,0:3.1.0/0.1.0");
        Boundary.due("machine 0 goes from 3 1 for 11 to 1 3 for 10", first.shiftBottlenecks(), 10);
        Boundary.due("closed", closed(first), "0 3 1 2");
        Boundary.due("the first one closed is one of them", Boundary.order(first, 0), "1 3");
        SetupJobShop all = Boundary.shopOf("0,0,0:3.4.0/2.6.0/0.7.0;1,0,0:3.3.0/2.1.0/0.1.0");
        Boundary.due("not only the latest one closed before", all.shiftBottlenecks(), 18);
        Boundary.due("closed", closed(all), "0 2 3 1");
        SetupJobShop once = Boundary.shopOf("0,0,0:1.1.0/2.3.0/3.8.0/0.5.0;0,0,0:1.4.0/2.7.0/0.7.0/3.6.0");
        Boundary.due("a second time would lead to 25", once.shiftBottlenecks(), 28);
        Boundary.sentence(28, "in the order in which they were closed");
        SetupJobShop order = Boundary.shopOf("0,0,0:1.3.0/0.7.0;0,0,0:1.2.0/2.3.0;0,0,0:0.6.0;6,0,0:2.8.0");
        Boundary.due("the other way round would lead to 14", order.shiftBottlenecks(), 16);
        Boundary.due("closed", closed(order), "0 1 2 3");
    }

    /** Machine 3, closed last for 23, could go on to 19 after machine 2 has changed, but it was not closed before. */
    private static void promise28ClosedBefore() {
        Boundary.sentence(28, "then all machines that were closed before are reoptimized once, in the order in which "
                + "they were closed");
        SetupJobShop shop = Boundary.shopOf("14,0,0:3.5.1;0,0,0:1.3.1/2.5.2/3.2.1;0,0,0:0.3.1;0,0,0:2.1.1/3.5.2");
        shop.setSetup(1, 2, 4);
        shop.setSetup(2, 1, 1);
        Boundary.due("makespan", shop.shiftBottlenecks(), 21);
        Boundary.due("closed", closed(shop), "0 1 2 3");
        Boundary.due("machine 3 is not reoptimized", shop.best(3), 19);
    }

    private static void promise28BuildsAnew() {
        Boundary.sentence(28, "Builds all orders anew by the shifting bottleneck procedure.");
        SetupJobShop shop = Boundary.full();
        int span = shop.shiftBottlenecks();
        Boundary.due("as makespan says", shop.makespan(), span);
        StringBuilder orders = new StringBuilder();
        for (int machine = 0; machine < 4; machine++) {
            orders.append(Boundary.order(shop, machine)).append(", ");
        }
        SetupJobShop other = Boundary.full();
        other.dispatch(1);
        other.move(19, 0);
        Boundary.due("whatever the orders were", other.shiftBottlenecks(), span);
        StringBuilder otherOrders = new StringBuilder();
        for (int machine = 0; machine < 4; machine++) {
            otherOrders.append(Boundary.order(other, machine)).append(", ");
        }
        Boundary.due("the same orders", otherOrders.toString(), orders.toString());
    }

    // Promise 29.

    private static void promise29Indices() {
        Boundary.sentence(29, "Throws `NoSuchElementException` if there was no such call, or index is not from 0 to 3");
        for (int index = 0; index < 4; index++) {
            int at = index;
            Boundary.refused("no call, index " + index, Boundary.ELEMENT, Boundary::full, shop -> shop.bottleneck(at));
        }
        Boundary.refused("index 4", Boundary.ELEMENT, Boundary::rich, shop -> shop.bottleneck(4));
        for (int far : Boundary.FAR) {
            Boundary.refused("no call, index " + far, Boundary.ELEMENT, Boundary::full, shop -> shop.bottleneck(far));
            Boundary.refused("index " + far, Boundary.ELEMENT, Boundary::rich, shop -> shop.bottleneck(far));
        }
        SetupJobShop searched = Boundary.full();
        searched.tabu(1, 1);
        searched.dispatch(0);
        searched.reoptimize(0);
        Boundary.refused("other calls are no such call", Boundary.ELEMENT, () -> searched.bottleneck(0));
    }

    private static void promise29LatestCall() {
        Boundary.sentence(29, "Returns a machine by the order in which the machines were closed in the latest call of "
                + "shiftBottlenecks.");
        SetupJobShop shop = new SetupJobShop();
        shop.save();
        shop.shiftBottlenecks();
        Boundary.due("of an empty shop", closed(shop), "0 1 2 3");
        Check.type(shop, "0,0,0:3.5.0;0,0,0:3.5.0;0,0,0:2.9.0");
        shop.read();
        Boundary.due("still", closed(shop), "0 1 2 3");
        shop.shiftBottlenecks();
        Boundary.due("the next call", closed(shop), "3 0 1 2");
        shop.restore();
        Boundary.due("not part of a snapshot", closed(shop), "3 0 1 2");
    }

    // Promise 30.

    private static void promise30NoSteps() {
        Boundary.sentence(30, "the greatest number of steps, 0 to 20");
        SetupJobShop shop = circle();
        Boundary.due("0 steps", shop.tabu(0, 9), 21);
        Boundary.due("order", Boundary.order(shop, 0), "0 1 2");
        Boundary.due("steps made", shop.tabuSteps(), 0);
        SetupJobShop two = Boundary.row(0, 1, 1);
        two.tabu(20, 0);
        Boundary.due("20 steps", two.tabuSteps(), 20);
        two.tabu(19, 0);
        Boundary.due("19 steps", two.tabuSteps(), 19);
        SetupJobShop one = circle();
        Boundary.due("1 step", one.tabu(1, 0), 3);
        Boundary.due("one step made", one.tabuSteps(), 1);
    }

    private static void promise30NoCandidate() {
        Boundary.sentence(30, "If there is none, the search ends.");
        SetupJobShop empty = new SetupJobShop();
        Boundary.due("no operations", empty.tabu(20, 9), 0);
        Boundary.due("no step", empty.tabuSteps(), 0);
        SetupJobShop one = Boundary.row(0, 7);
        Boundary.due("one operation", one.tabu(20, 0), 7);
        Boundary.due("no step", one.tabuSteps(), 0);
        SetupJobShop job = Boundary.shopOf("0,0,0:0.1.0/1.1.0/2.1.0/3.1.0");
        Boundary.due("one job", job.tabu(20, 0), 4);
        Boundary.due("no step", job.tabuSteps(), 0);
        Boundary.sentence(30, "the candidates are the swaps of operations that stand next to each other in a block of "
                + "the critical path and in the order of its machine, which lead to no cycle");
        SetupJobShop off = Boundary.row(0, 2, 3, 4);
        off.setJob(2, 0, 6);
        Boundary.due("operations 0 and 1 are not on the path", off.tabu(20, 0), 10);
        Boundary.due("no step", off.tabuSteps(), 0);
        off.setJob(2, 0, 5);
        off.tabu(20, 0);
        Boundary.due("now they are", off.tabuSteps(), 20);
    }

    /**
     * All orders are equally good, and the pairs come up again one after the other: with as many steps of tenure as
     * there are pairs nothing is left, with one less the oldest swap is free again.
     */
    private static void promise30Tenure() {
        Boundary.sentence(30, "A candidate is forbidden if it would put an operation a before an operation b and a swap "
                + "that put b before a was made in one of the latest tenure steps");
        for (int size = 2; size <= 5; size++) {
            int pairs = size * (size - 1) / 2;
            int[] durations = {1, 1, 1, 1, 1};
            for (int tenure = Math.max(0, pairs - 3); tenure <= Math.min(9, pairs + 1); tenure++) {
                SetupJobShop shop = Boundary.row(1, Arrays.copyOf(durations, size));
                Boundary.due("makespan", shop.tabu(20, tenure), size);
                Boundary.due(size + " operations, tenure " + tenure, shop.tabuSteps(), tenure < pairs ? 20 : pairs);
            }
        }
        Boundary.sentence(30, "the tenure, 0 to 9");
        SetupJobShop five = Boundary.row(1, 1, 1, 1, 1, 1);
        five.tabu(20, 9);
        Boundary.due("nine of ten pairs are forbidden", five.tabuSteps(), 20);
        SetupJobShop two = Boundary.row(1, 1, 1);
        two.tabu(20, 0);
        Boundary.due("nothing is forbidden", two.tabuSteps(), 20);
        SetupJobShop again = Boundary.shopOf("0,0,0:0.2.0;0,0,0:0.3.1");
        again.setSetup(0, 1, 5);
        Boundary.due("the first search stays at 1 0", again.tabu(1, 9), 5);
        again.tabu(20, 9);
        Boundary.due("its step is none of the second search, which may undo it", again.tabuSteps(), 1);
    }

    private static void promise30PathOfThisStep() {
        Boundary.sentence(30, "operations that stand next to each other in a block of the critical path");
        SetupJobShop shop = Boundary.row(0, 2, 3, 4);
        shop.tabu(1, 0);
        shop.setJob(2, 0, 99);
        shop.tabu(20, 0);
        Boundary.due("0 and 1 were on the path of an earlier search", shop.tabuSteps(), 0);
        SetupJobShop job = Boundary.shopOf("0,0,0:0.5.0;0,0,0:1.4.0/0.3.0");
        Boundary.due("0 and 2 are on the path", Boundary.path(job), "0 2");
        job.tabu(1, 0);
        job.setDuration(1, 9);
        Boundary.due("now 1 and 2 are", Boundary.path(job), "1 2");
        job.tabu(20, 0);
        Boundary.due("they are on two machines", job.tabuSteps(), 0);
    }

    private static void promise30UnlessLess() {
        Boundary.sentence(30, "unless it leads to a makespan that is less than the least one of all schedules reached "
                + "so far, including the first one");
        SetupJobShop equal = Boundary.row(0, 2, 3);
        equal.tabu(20, 1);
        Boundary.due("equal is not less", equal.tabuSteps(), 1);
        SetupJobShop first = Boundary.shopOf("0,0,0:0.2.0;0,0,0:0.3.1");
        first.setSetup(1, 0, 2);
        Boundary.due("back from 7 to 5", first.tabu(20, 1), 5);
        Boundary.due("is less than 7, but not than the first one", first.tabuSteps(), 1);
        Boundary.due("the first one", Boundary.order(first, 0), "0 1");
        SetupJobShop less = Boundary.shopOf("0,0,0:0.1.0;0,0,0:0.4.1;0,0,0:0.2.2");
        less.setSetup(2, 1, 7);
        less.setSetup(1, 2, 7);
        less.setSetup(0, 2, 2);
        less.save();
        Boundary.due("the fourth step undoes the first one, from 9 to 7", less.tabu(20, 8), 7);
        Boundary.due("steps", less.tabuSteps(), 4);
        less.restore();
        less.setSetup(2, 0, 2);
        Boundary.due("to 9 is not less than 9", less.tabu(20, 8), 9);
        Boundary.due("so the search ends", less.tabuSteps(), 3);
        less.restore();
        less.setSetup(2, 0, 1);
        Boundary.due("to 8 is less than 9", less.tabu(20, 8), 8);
        Boundary.due("so the step is made", less.tabuSteps(), 4);
    }

    /** In the first shop both swaps lead to 3; in the second one, a swap of either machine leads to 9. */
    private static void promise30LowestMachineAndPosition() {
        Boundary.sentence(30, "of several, it is the one on the lowest machine, then the one at the lowest position in "
                + "its order");
        SetupJobShop shop = circle();
        Boundary.due("makespan", shop.tabu(1, 0), 3);
        Boundary.due("position 0", Boundary.order(shop, 0), "1 0 2");
        SetupJobShop machines = Boundary.shopOf("0,0,0:2.2.0;0,0,0:2.2.0/1.5.0;0,0,0:1.2.0");
        Boundary.due("makespan", machines.tabu(1, 0), 9);
        Boundary.due("machine 1", Boundary.order(machines, 1), "3 2");
        Boundary.due("not machine 2", Boundary.order(machines, 2), "0 1");
        Boundary.sentence(30, "The candidate that is not forbidden and leads to the least makespan is made");
        SetupJobShop least = circle();
        least.setSetup(1, 0, 1);
        Boundary.due("3 is less than 4", least.tabu(1, 0), 3);
        Boundary.due("position 1", Boundary.order(least, 0), "0 2 1");
    }

    private static void promise30ReachedFirst() {
        Boundary.sentence(30, "After the search, the orders are those of the schedule with the least makespan that was "
                + "reached; of several, the one that was reached first.");
        SetupJobShop same = Boundary.row(0, 2, 3, 4);
        same.tabu(20, 2);
        Boundary.due("the first one of all", Boundary.order(same, 0), "0 1 2");
        SetupJobShop shop = circle();
        Boundary.due("makespan", shop.tabu(20, 9), 3);
        Boundary.due("the first one with 3", Boundary.order(shop, 0), "1 0 2");
        Boundary.due("more steps than that", shop.tabuSteps() > 1, true);
        SetupJobShop worse = Boundary.shopOf("0,0,0:0.2.0;0,0,0:0.3.1");
        worse.setSetup(1, 0, 9);
        Boundary.due("all other schedules are worse", worse.tabu(1, 0), 5);
        Boundary.due("back to the first one", Boundary.order(worse, 0), "0 1");
        Boundary.due("the step was made all the same", worse.tabuSteps(), 1);
    }

    /** Because of the setup, 0 and 3 stand on the path, though 0, 1, 2, 3 must follow one another. */
    private static void promise30NoCycle() {
        Boundary.sentence(30, "which lead to no cycle");
        SetupJobShop shop = Boundary.shopOf("0,0,0:0.1.0/1.1.0;0,0,0:1.1.0/0.1.1");
        shop.setSetup(0, 1, 9);
        Boundary.due("path", Boundary.path(shop), "0 3");
        Boundary.due("makespan", shop.tabu(20, 0), 11);
        Boundary.due("no step", shop.tabuSteps(), 0);
        Boundary.due("no failure", Boundary.failure(shop), "0");
    }

    private static void promise30OutOfRange() {
        Boundary.sentence(30, "Throws `IllegalArgumentException` if an argument is out of range");
        Boundary.refused("steps 21", Boundary.ARGUMENT, Boundary::rich, shop -> shop.tabu(21, 0));
        Boundary.refused("tenure 10", Boundary.ARGUMENT, Boundary::rich, shop -> shop.tabu(0, 10));
        Boundary.refused("tenure 10 and 20 steps", Boundary.ARGUMENT, Boundary::rich, shop -> shop.tabu(20, 10));
        for (int far : Boundary.FAR) {
            Boundary.refused("steps " + far, Boundary.ARGUMENT, Boundary::rich, shop -> shop.tabu(far, 1));
            Boundary.refused("tenure " + far, Boundary.ARGUMENT, Boundary::rich, shop -> shop.tabu(1, far));
        }
        SetupJobShop empty = new SetupJobShop();
        Boundary.refused("steps 21 without operations", Boundary.ARGUMENT, () -> empty.tabu(21, 0));
    }

    // Promise 31.

    private static void promise31NoSuchCall() {
        Boundary.sentence(31, "Returns the number, 0 if there was no such call.");
        Boundary.due("a new object", new SetupJobShop().tabuSteps(), 0);
        SetupJobShop shop = Boundary.full();
        shop.shiftBottlenecks();
        shop.dispatch(0);
        Boundary.due("other calls", shop.tabuSteps(), 0);
        Check.answerOf(() -> shop.tabu(21, 0));
        Boundary.due("a refused call", shop.tabuSteps(), 0);
    }

    private static void promise31LatestCall() {
        Boundary.sentence(31, "Returns the number of steps made in the latest call of tabu.");
        SetupJobShop shop = Boundary.row(0, 1, 1);
        shop.save();
        shop.tabu(20, 0);
        Boundary.due("20", shop.tabuSteps(), 20);
        Check.answerOf(() -> shop.tabu(1, 10));
        Boundary.due("after a refused call", shop.tabuSteps(), 20);
        shop.restore();
        Boundary.due("not part of a snapshot", shop.tabuSteps(), 20);
        shop.tabu(20, 1);
        Boundary.due("1, and the step that could not be made counts for none", shop.tabuSteps(), 1);
        shop.tabu(0, 0);
        Boundary.due("0", shop.tabuSteps(), 0);
    }
}
