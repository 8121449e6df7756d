import java.util.NoSuchElementException;

/** Promises 22 to 25: swap, move, dispatch and repair. */
public final class ChangesTest {
    public static void main(String[] args) {
        promise22Swap();
        promise22SwapWithACycle();
        promise22LowestUndefined();
        promise23Move();
        promise23MoveWithACycle();
        promise24Dispatch();
        promise24StartBeforeRule();
        promise24SetupsAndBreakdowns();
        promise25Repair();
        promise25NoCandidateBeforeTheTime();
        promise25WrongArguments();
        Check.end();
    }

    static void dueOrder(SetupJobShop shop, int machine, int... want) {
        for (int position = 0; position < want.length; position++) {
            Check.due("machine " + machine + " at " + position, shop.order(machine, position), want[position]);
        }
        Check.refused("behind the order", NoSuchElementException.class, () -> shop.order(machine, want.length));
    }

    /** Single operations 0, 1, 2, .. on machine 0, with these durations. */
    static SetupJobShop oneMachine(int... durations) {
        SetupJobShop shop = new SetupJobShop();
        for (int job = 0; job < durations.length; job++) {
            shop.addJob(0, 0, 0);
            shop.addOperation(job, 0, durations[job], job % 3);
        }
        return shop;
    }

    /** The orders 0, 3 and 1, 2 and 4, 5; a swap on machine 0 alone would lead to a cycle. */
    private static SetupJobShop crossing() {
        SetupJobShop shop = new SetupJobShop();
        shop.addJob(0, 0, 0);
        shop.addOperation(0, 0, 5, 0);
        shop.addOperation(0, 1, 4, 0);
        shop.addJob(0, 0, 0);
        shop.addOperation(1, 1, 6, 0);
        shop.addOperation(1, 0, 3, 0);
        shop.addJob(0, 0, 0);
        shop.addOperation(2, 2, 3, 0);
        shop.addOperation(1, 2, 1, 0);
        return shop;
    }

    private static void promise22Swap() {
        SetupJobShop shop = oneMachine(3, 4, 5);
        shop.setSetup(0, 2, 7);
        Check.due("swap", shop.swap(0, 1), 19);
        dueOrder(shop, 0, 0, 2, 1);
        Check.due("swap", shop.swap(0, 0), 12);
        dueOrder(shop, 0, 2, 0, 1);
        Check.refused("the last position", NoSuchElementException.class, () -> shop.swap(0, 2));
        Check.refused("position -1", NoSuchElementException.class, () -> shop.swap(0, -1));
        Check.refused("far position", NoSuchElementException.class, () -> shop.swap(0, Integer.MAX_VALUE));
        Check.refused("empty machine", NoSuchElementException.class, () -> shop.swap(1, 0));
        Check.refused("machine 4", IndexOutOfBoundsException.class, () -> shop.swap(4, -1));
        Check.refused("machine -1", IndexOutOfBoundsException.class, () -> shop.swap(-1, 0));
        dueOrder(shop, 0, 2, 0, 1);
        Check.due("no failure", shop.failure(0), 0);
    }

    private static void promise22SwapWithACycle() {
        SetupJobShop shop = crossing();
        String before = Check.stateOf(shop);
        Check.refused("swap", IllegalStateException.class, () -> shop.swap(0, 0));
        Check.due("nothing changes", Check.stateOf(shop), before);
        Check.due("code", shop.failure(0), 1);
        Check.due("lowest undefined", shop.failure(1), 100);
        Check.due("undefined operations", shop.failure(2), 5);
        Check.due("no more causes", shop.failure(3), -1);
        Check.due("swap without cycle", shop.swap(1, 0), 10);
        Check.due("now without cycle", shop.swap(0, 0), 18);
    }

    /** Job 0 comes first on machine 3, so operation 0 is defined in spite of the cycle. */
    private static void promise22LowestUndefined() {
        SetupJobShop shop = new SetupJobShop();
        Check.type(shop, "0,0,0:3.1.0;0,0,0:0.1.0/1.1.0;0,0,0:1.1.0/0.1.0");
        shop.read();
        Check.refused("swap", IllegalStateException.class, () -> shop.swap(0, 0));
        Check.due("lowest undefined", shop.failure(1), 101);
        Check.due("undefined operations", shop.failure(2), 4);
    }

    private static void promise23Move() {
        SetupJobShop shop = oneMachine(1, 2, 3, 4);
        shop.setSetup(2, 1, 9);
        Check.due("to the end", shop.move(0, 3), 10);
        dueOrder(shop, 0, 1, 2, 3, 0);
        Check.due("to the beginning", shop.move(2, 0), 19);
        dueOrder(shop, 0, 2, 1, 3, 0);
        Check.due("to its own position", shop.move(1, 1), 19);
        dueOrder(shop, 0, 2, 1, 3, 0);
        Check.due("one back", shop.move(0, 2), 19);
        dueOrder(shop, 0, 2, 1, 0, 3);
        Check.refused("position 4", IllegalArgumentException.class, () -> shop.move(0, 4));
        Check.refused("position -1", IllegalArgumentException.class, () -> shop.move(0, -1));
        Check.refused("operation 4", IndexOutOfBoundsException.class, () -> shop.move(4, 9));
        Check.refused("operation -1", IndexOutOfBoundsException.class, () -> shop.move(-1, 0));
        dueOrder(shop, 0, 2, 1, 0, 3);
    }

    private static void promise23MoveWithACycle() {
        SetupJobShop shop = crossing();
        shop.addJob(0, 0, 0);
        shop.addOperation(3, 0, 2, 0);
        shop.swap(1, 0);
        shop.swap(0, 0);
        dueOrder(shop, 0, 3, 0, 6);
        String before = Check.stateOf(shop);
        Check.refused("move", IllegalStateException.class, () -> shop.move(1, 0));
        Check.due("nothing changes", Check.stateOf(shop), before);
        Check.due("code", shop.failure(0), 1);
        Check.due("lowest undefined", shop.failure(1), 100);
        Check.due("undefined operations", shop.failure(2), 6);
        shop.move(6, 0);
        Check.refused("move", IllegalStateException.class, () -> shop.move(1, 0));
        Check.due("operation 6 is defined now", shop.failure(2), 5);
        Check.refused("wrong position", IllegalArgumentException.class, () -> shop.move(1, 9));
        Check.due("no new failure", shop.failure(2), 5);
    }

    private static void promise24Dispatch() {
        int[][] want = {{2, 4, 0}, {4, 0, 2}, {4, 2, 0}, {0, 2, 4}};
        int[] spans = {17, 16, 16, 21};
        SetupJobShop shop = new SetupJobShop();
        int[][] jobs = {{30, 5, 1}, {20, 3, 2}, {10, 4, 9}};
        for (int job = 0; job < 3; job++) {
            shop.addJob(0, jobs[job][0], 0);
            shop.addOperation(job, 0, jobs[job][1], 0);
            shop.addOperation(job, 1, jobs[job][2], 0);
        }
        for (int rule = 0; rule < 4; rule++) {
            Check.due("rule " + rule, shop.dispatch(rule), spans[rule]);
            dueOrder(shop, 0, want[rule]);
        }
        Check.refused("rule 4", IllegalArgumentException.class, () -> shop.dispatch(4));
        Check.refused("rule -1", IllegalArgumentException.class, () -> shop.dispatch(-1));
        dueOrder(shop, 0, want[3]);
        Check.due("empty shop", new SetupJobShop().dispatch(0), 0);
    }

    private static void promise24StartBeforeRule() {
        SetupJobShop shop = oneMachine(9, 1, 1);
        shop.setJob(1, 0, 1);
        shop.setJob(2, 0, 1);
        Check.due("dispatch", shop.dispatch(0), 11);
        dueOrder(shop, 0, 0, 1, 2);
        shop.setJob(0, 0, 2);
        Check.due("dispatch", shop.dispatch(1), 12);
        dueOrder(shop, 0, 1, 0, 2);
    }

    private static void promise24SetupsAndBreakdowns() {
        SetupJobShop shop = oneMachine(2, 5, 3);
        shop.setSetup(0, 1, 4);
        Check.due("the setup delays operation 1", shop.dispatch(3), 10);
        dueOrder(shop, 0, 0, 2, 1);
        shop.addBreakdown(0, 4, 3);
        Check.due("the breakdown delays both others", shop.dispatch(3), 15);
        dueOrder(shop, 0, 0, 1, 2);
    }

    private static void promise25Repair() {
        int[] times = {0, 1, 5, 6, 8, 9};
        int[][] want = {{1, 2, 0, 3}, {0, 3, 1, 2}, {0, 3, 1, 2}, {0, 1, 3, 2}, {0, 1, 3, 2}, {0, 1, 2, 3}};
        for (int i = 0; i < times.length; i++) {
            SetupJobShop shop = oneMachine(5, 3, 4, 2);
            if (i == 0) {
                shop.setDuration(3, 9);
            }
            Check.due("repair", shop.repair(times[i], 0), i == 0 ? 21 : 14);
            dueOrder(shop, 0, want[i]);
        }
        SetupJobShop shop = oneMachine(5, 3, 4);
        shop.addBreakdown(0, 6, 2);
        Check.due("starts 0, 8, 11", shop.repair(8, 0), 15);
        shop.addBreakdown(0, 5, 9);
        Check.due("the kept one as it is", shop.repair(1, 1), 21);
        dueOrder(shop, 0, 0, 2, 1);
    }

    private static void promise25NoCandidateBeforeTheTime() {
        SetupJobShop shop = oneMachine(2, 1);
        shop.setJob(1, 0, 3);
        shop.swap(0, 0);
        Check.due("both candidates at 3", shop.repair(3, 0), 6);
        dueOrder(shop, 0, 1, 0);
        Check.due("without a preference", shop.repair(3, 3), 4);
        dueOrder(shop, 0, 0, 1);
        Check.due("times as always", shop.time(0, 1), 0);
        shop.swap(0, 0);
        Check.due("an earlier time", shop.repair(2, 0), 4);
        dueOrder(shop, 0, 0, 1);
    }

    private static void promise25WrongArguments() {
        SetupJobShop shop = oneMachine(2, 1);
        Check.refused("time 1000", IllegalArgumentException.class, () -> shop.repair(1000, 0));
        Check.refused("time -1", IllegalArgumentException.class, () -> shop.repair(-1, 0));
        Check.refused("rule 4", IllegalArgumentException.class, () -> shop.repair(0, 4));
        Check.refused("rule -1", IllegalArgumentException.class, () -> shop.repair(0, -1));
        dueOrder(shop, 0, 0, 1);
        Check.due("time 999", shop.repair(999, 0), 3);
        dueOrder(shop, 0, 0, 1);
        Check.due("empty shop", new SetupJobShop().repair(0, 0), 0);
    }
}
