import java.util.NoSuchElementException;

/** Promises 26 to 31: reoptimization, the shifting bottleneck procedure and tabu search. */
public final class SearchesTest {
    public static void main(String[] args) {
        promise26Best();
        promise27Reoptimize();
        promise27KeepsOtherOrders();
        promise27AvoidsCycles();
        promise28ShiftBottlenecks();
        promise28BeginsAnew();
        promise28ReoptimizesWhatWasClosedBefore();
        promise29Bottleneck();
        promise30TabuOnOneMachine();
        promise30OnlyCriticalSwaps();
        promise30TabuForbids();
        promise30ForgetsEarlierSearches();
        promise30TabuAspires();
        promise30NoCycles();
        promise30LowestMachine();
        promise30WrongArguments();
        promise31TabuSteps();
        Check.end();
    }

    /** Each step up in the circle 0, 1, 2 of the families takes 9, each step down nothing. */
    private static SetupJobShop circle() {
        SetupJobShop shop = ChangesTest.oneMachine(1, 1, 1);
        shop.setSetup(0, 1, 9);
        shop.setSetup(1, 2, 9);
        shop.setSetup(2, 0, 9);
        return shop;
    }

    private static void promise26Best() {
        SetupJobShop shop = circle();
        Check.due("makespan", shop.makespan(), 21);
        Check.due("best", shop.best(0), 3);
        ChangesTest.dueOrder(shop, 0, 0, 1, 2);
        Check.due("makespan stays", shop.makespan(), 21);
        Check.due("a machine without operations", shop.best(3), 21);
        Check.refused("machine 4", IndexOutOfBoundsException.class, () -> shop.best(4));
        Check.refused("machine -1", IndexOutOfBoundsException.class, () -> shop.best(-1));
    }

    private static void promise27Reoptimize() {
        SetupJobShop shop = circle();
        Check.due("changed positions", shop.reoptimize(0), 2);
        ChangesTest.dueOrder(shop, 0, 0, 2, 1);
        Check.due("makespan", shop.makespan(), 3);
        Check.due("again", shop.reoptimize(0), 0);
        shop.swap(0, 0);
        shop.swap(0, 1);
        ChangesTest.dueOrder(shop, 0, 2, 1, 0);
        Check.due("the lexicographically least one", shop.reoptimize(0), 3);
        ChangesTest.dueOrder(shop, 0, 0, 2, 1);
        Check.due("an empty machine", shop.reoptimize(1), 0);
        Check.refused("machine 4", IndexOutOfBoundsException.class, () -> shop.reoptimize(4));
        Check.refused("machine -1", IndexOutOfBoundsException.class, () -> shop.reoptimize(-1));
        SetupJobShop five = ChangesTest.oneMachine(1, 1, 1, 1, 1);
        five.setJob(0, 0, 4);
        Check.due("five operations", five.reoptimize(0), 5);
        ChangesTest.dueOrder(five, 0, 1, 2, 3, 4, 0);
    }

    private static SetupJobShop crossing() {
        SetupJobShop shop = new SetupJobShop();
        Check.type(shop, "0,20,2:0.5.0/1.4.1;0,12,1:1.6.0/0.3.2");
        shop.read();
        return shop;
    }

    private static void promise27KeepsOtherOrders() {
        SetupJobShop shop = crossing();
        Check.due("makespan", shop.makespan(), 18);
        Check.due("best of machine 1", shop.best(1), 10);
        Check.due("changed positions", shop.reoptimize(1), 2);
        ChangesTest.dueOrder(shop, 0, 0, 3);
        ChangesTest.dueOrder(shop, 1, 2, 1);
        Check.due("makespan", shop.makespan(), 10);
    }

    /** With machine 1 in the order 1, 2 only the order 0, 3 of machine 0 has no cycle. */
    private static void promise27AvoidsCycles() {
        SetupJobShop shop = crossing();
        Check.due("best", shop.best(0), 18);
        Check.due("changed positions", shop.reoptimize(0), 0);
        Check.due("no failure", shop.failure(0), 0);
        shop.swap(1, 0);
        shop.swap(0, 0);
        Check.due("best", shop.best(1), 18);
        Check.due("the greater order is the only one", shop.reoptimize(1), 0);
        ChangesTest.dueOrder(shop, 1, 2, 1);
    }

    private static void promise28ShiftBottlenecks() {
        SetupJobShop shop = new SetupJobShop();
        Check.type(shop, "0,9,1:0.3.0/3.9.0;0,9,1:3.8.0/1.2.0;0,9,1:3.7.0/0.1.0");
        shop.read();
        Check.due("makespan", shop.shiftBottlenecks(), 24);
        Check.due("as makespan says", shop.makespan(), 24);
        ChangesTest.dueOrder(shop, 3, 2, 4, 1);
        ChangesTest.dueOrder(shop, 0, 0, 5);
        ChangesTest.dueOrder(shop, 1, 3);
        int[] want = {3, 0, 1, 2};
        for (int index = 0; index < 4; index++) {
            Check.due("bottleneck " + index, shop.bottleneck(index), want[index]);
        }
        SetupJobShop empty = new SetupJobShop();
        Check.due("empty shop", empty.shiftBottlenecks(), 0);
        Check.due("last closed", empty.bottleneck(3), 3);
    }

    /** The present orders don't matter, and breakdowns and setups do. */
    private static void promise28BeginsAnew() {
        SetupJobShop shop = circle();
        Check.due("one machine", shop.shiftBottlenecks(), 3);
        ChangesTest.dueOrder(shop, 0, 0, 2, 1);
        shop.move(1, 0);
        Check.due("again", shop.shiftBottlenecks(), 3);
        ChangesTest.dueOrder(shop, 0, 0, 2, 1);
        shop.addBreakdown(0, 1, 2);
        Check.due("with a breakdown", shop.shiftBottlenecks(), 5);
        shop.addJob(9, 0, 0);
        shop.addOperation(3, 2, 1, 0);
        Check.due("with another machine", shop.shiftBottlenecks(), 10);
        ChangesTest.dueOrder(shop, 0, 0, 2, 1);
        Check.due("of equal ones the lowest", shop.bottleneck(0), 0);
    }

    /**
     * Machine 3 is closed last, with the order 6, 0, 3 for 23. Then machine 2 changes to 5, 2 for 21. Machine 3 could
     * now reach 19, but only the machines closed before it are reoptimized.
     */
    private static void promise28ReoptimizesWhatWasClosedBefore() {
        SetupJobShop shop = new SetupJobShop();
        Check.type(shop, "14,0,0:3.5.1;0,0,0:1.3.1/2.5.2/3.2.1;0,0,0:0.3.1;0,0,0:2.1.1/3.5.2");
        shop.read();
        shop.setSetup(1, 2, 4);
        shop.setSetup(2, 1, 1);
        Check.due("makespan", shop.shiftBottlenecks(), 21);
        for (int index = 0; index < 4; index++) {
            Check.due("bottleneck " + index, shop.bottleneck(index), index);
        }
        ChangesTest.dueOrder(shop, 2, 5, 2);
        ChangesTest.dueOrder(shop, 3, 6, 0, 3);
        Check.due("best of machine 3", shop.best(3), 19);
    }

    private static void promise29Bottleneck() {
        SetupJobShop shop = new SetupJobShop();
        Check.refused("no call yet", NoSuchElementException.class, () -> shop.bottleneck(0));
        Check.type(shop, "0,0,0:2.5.0;0,0,0:2.5.0;0,0,0:1.9.0");
        shop.read();
        shop.shiftBottlenecks();
        Check.due("first", shop.bottleneck(0), 2);
        Check.due("second", shop.bottleneck(1), 0);
        Check.due("third", shop.bottleneck(2), 1);
        Check.due("fourth", shop.bottleneck(3), 3);
        Check.refused("index 4", NoSuchElementException.class, () -> shop.bottleneck(4));
        Check.refused("index -1", NoSuchElementException.class, () -> shop.bottleneck(-1));
        shop.dispatch(0);
        shop.addOperation(2, 3, 30, 0);
        Check.due("the latest call counts", shop.bottleneck(0), 2);
        shop.addJob(0, 0, 0);
        shop.addOperation(3, 3, 30, 0);
        shop.shiftBottlenecks();
        Check.due("the newer call counts", shop.bottleneck(0), 3);
    }

    /** The order 0, 1, 2 takes 21, and both swaps lead to 3. */
    private static void promise30TabuOnOneMachine() {
        SetupJobShop shop = circle();
        Check.due("no step", shop.tabu(0, 0), 21);
        ChangesTest.dueOrder(shop, 0, 0, 1, 2);
        Check.due("one step", shop.tabu(1, 0), 3);
        ChangesTest.dueOrder(shop, 0, 1, 0, 2);
        SetupJobShop longer = circle();
        longer.setSetup(1, 0, 9);
        Check.due("the best swap, not the first", longer.tabu(1, 9), 3);
        ChangesTest.dueOrder(longer, 0, 0, 2, 1);
        SetupJobShop same = ChangesTest.oneMachine(2, 3, 4);
        Check.due("nothing to win", same.tabu(7, 2), 9);
        ChangesTest.dueOrder(same, 0, 0, 1, 2);
    }

    /** Operation 1 is not on the critical path, so it is not swapped. */
    private static void promise30OnlyCriticalSwaps() {
        SetupJobShop shop = ChangesTest.oneMachine(2, 3, 4);
        shop.setJob(2, 0, 50);
        Check.due("makespan", shop.tabu(20, 0), 54);
        Check.due("no candidate", shop.tabuSteps(), 0);
        ChangesTest.dueOrder(shop, 0, 0, 1, 2);
    }

    /** All orders lead to the same makespan, so only the tenure ends the search. */
    private static void promise30TabuForbids() {
        for (int tenure = 0; tenure <= 9; tenure++) {
            SetupJobShop two = ChangesTest.oneMachine(2, 3);
            Check.due("makespan", two.tabu(20, tenure), 5);
            Check.due("steps with tenure " + tenure, two.tabuSteps(), tenure == 0 ? 20 : 1);
            ChangesTest.dueOrder(two, 0, 0, 1);
            SetupJobShop three = ChangesTest.oneMachine(2, 3, 4);
            Check.due("makespan", three.tabu(20, tenure), 9);
            // Without repetition a pair comes up again in every third step.
            Check.due("steps with tenure " + tenure, three.tabuSteps(), tenure < 3 ? 20 : 3);
        }
    }

    private static void promise30ForgetsEarlierSearches() {
        SetupJobShop shop = ChangesTest.oneMachine(2, 3);
        shop.tabu(20, 9);
        shop.tabu(20, 9);
        Check.due("steps of the second search", shop.tabuSteps(), 1);
    }

    /** The fourth swap undoes the first one, within the tenure, but leads from 9 to 7. */
    private static void promise30TabuAspires() {
        SetupJobShop shop = ChangesTest.oneMachine(1, 4, 2);
        shop.setSetup(2, 1, 7);
        shop.setSetup(1, 2, 7);
        shop.setSetup(0, 2, 2);
        shop.save();
        Check.due("three steps", shop.tabu(3, 8), 9);
        ChangesTest.dueOrder(shop, 0, 1, 0, 2);
        shop.restore();
        Check.due("all steps", shop.tabu(20, 8), 7);
        Check.due("steps", shop.tabuSteps(), 4);
        ChangesTest.dueOrder(shop, 0, 2, 0, 1);
    }

    /** Because of the setup, operations 0 and 3 are critical though a path leads from 0 through 1 and 2 to 3. */
    private static void promise30NoCycles() {
        SetupJobShop shop = new SetupJobShop();
        Check.type(shop, "0,0,0:0.1.0/1.1.0;0,0,0:1.1.0/0.1.1");
        shop.read();
        shop.setSetup(0, 1, 9);
        Check.due("path", shop.pathLength(), 2);
        Check.due("makespan", shop.tabu(20, 0), 11);
        Check.due("steps", shop.tabuSteps(), 0);
        Check.due("no failure", shop.failure(0), 0);
    }

    /** The path has the orders 0, 1 of machine 2 and 2, 3 of machine 1; either swap leads to 9. */
    private static void promise30LowestMachine() {
        SetupJobShop shop = new SetupJobShop();
        Check.type(shop, "0,0,0:2.2.0;0,0,0:2.2.0/1.5.0;0,0,0:1.2.0");
        shop.read();
        Check.due("makespan", shop.makespan(), 11);
        Check.due("path", shop.pathLength(), 4);
        Check.due("one step", shop.tabu(1, 0), 9);
        ChangesTest.dueOrder(shop, 1, 3, 2);
        ChangesTest.dueOrder(shop, 2, 0, 1);
    }

    private static void promise30WrongArguments() {
        SetupJobShop shop = circle();
        shop.tabu(1, 0);
        Check.refused("steps 21", IllegalArgumentException.class, () -> shop.tabu(21, 0));
        Check.refused("steps -1", IllegalArgumentException.class, () -> shop.tabu(-1, 0));
        Check.refused("tenure 10", IllegalArgumentException.class, () -> shop.tabu(0, 10));
        Check.refused("tenure -1", IllegalArgumentException.class, () -> shop.tabu(0, -1));
        Check.due("steps stay", shop.tabuSteps(), 1);
        Check.due("greatest arguments", shop.tabu(20, 9), 3);
        Check.due("empty shop", new SetupJobShop().tabu(20, 9), 0);
    }

    private static void promise31TabuSteps() {
        SetupJobShop shop = ChangesTest.oneMachine(2, 3);
        Check.due("no call yet", shop.tabuSteps(), 0);
        shop.tabu(7, 0);
        Check.due("as many as allowed", shop.tabuSteps(), 7);
        shop.tabu(7, 1);
        Check.due("ended early", shop.tabuSteps(), 1);
        shop.shiftBottlenecks();
        shop.save();
        shop.tabu(0, 1);
        Check.due("no step", shop.tabuSteps(), 0);
        shop.tabu(2, 0);
        shop.restore();
        Check.due("not part of a snapshot", shop.tabuSteps(), 2);
    }
}
