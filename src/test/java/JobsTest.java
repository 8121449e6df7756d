import java.util.NoSuchElementException;

/** Promises 1 to 11: jobs, operations, setup times, breakdowns and what is asked of them. */
public final class JobsTest {
    private static final int[] FAR = {-1, Integer.MIN_VALUE, Integer.MAX_VALUE};

    public static void main(String[] args) {
        promise1NewObject();
        promise2AddJob();
        promise3AddOperation();
        promise3FullJob();
        promise4SetJob();
        promise5SetDuration();
        promise6SetSetup();
        promise7AddBreakdown();
        promise8ClearBreakdowns();
        promise9Count();
        promise10Property();
        promise11Order();
        Check.end();
    }

    private static void promise1NewObject() {
        SetupJobShop shop = new SetupJobShop();
        Check.due("jobs", shop.count(0), 0);
        Check.due("operations", shop.count(1), 0);
        for (int machine = 0; machine < 4; machine++) {
            Check.due("breakdowns", shop.clearBreakdowns(machine), 0);
            Check.due("utilization", shop.utilization(machine), 0.0);
        }
        for (int from = 0; from < 3; from++) {
            for (int to = 0; to < 3; to++) {
                Check.due("setup", shop.setSetup(from, to, 1), 0);
            }
        }
        SetupJobShop other = new SetupJobShop();
        Check.due("setup of another object", other.setSetup(0, 0, 0), 0);
        Check.due("makespan", other.makespan(), 0);
        Check.due("failure", other.failure(0), 0);
    }

    private static void promise2AddJob() {
        SetupJobShop shop = new SetupJobShop();
        Check.due("least values", shop.addJob(0, 0, 0), 0);
        Check.due("greatest values", shop.addJob(99, 200, 9), 1);
        Check.due("its release", shop.setJob(1, 0, 0), 99);
        Check.due("its due time", shop.setJob(1, 1, 0), 200);
        Check.due("its weight", shop.setJob(1, 2, 0), 9);
        Check.refused("release 100", IllegalArgumentException.class, () -> shop.addJob(100, 0, 0));
        Check.refused("due 201", IllegalArgumentException.class, () -> shop.addJob(0, 201, 0));
        Check.refused("weight 10", IllegalArgumentException.class, () -> shop.addJob(0, 0, 10));
        for (int far : FAR) {
            Check.refused("release", IllegalArgumentException.class, () -> shop.addJob(far, 0, 0));
            Check.refused("due", IllegalArgumentException.class, () -> shop.addJob(0, far, 0));
            Check.refused("weight", IllegalArgumentException.class, () -> shop.addJob(0, 0, far));
        }
        Check.due("jobs", shop.count(0), 2);
        for (int job = 2; job < 5; job++) {
            Check.due("addJob", shop.addJob(1, 1, 1), job);
        }
        Check.refused("sixth job", IllegalStateException.class, () -> shop.addJob(1, 1, 1));
        Check.refused("sixth job, bad weight", IllegalArgumentException.class, () -> shop.addJob(1, 1, 10));
        Check.due("jobs", shop.count(0), 5);
        Check.due("operations of a new job", shop.completion(4), 1);
    }

    private static void promise3AddOperation() {
        SetupJobShop shop = new SetupJobShop();
        Check.refused("no job", IndexOutOfBoundsException.class, () -> shop.addOperation(0, 0, 1, 0));
        shop.addJob(0, 0, 0);
        shop.addJob(0, 0, 0);
        Check.due("first", shop.addOperation(1, 3, 30, 2), 0);
        Check.due("second", shop.addOperation(0, 3, 1, 0), 1);
        Check.due("third", shop.addOperation(1, 0, 7, 1), 2);
        Check.due("at the end of the order", shop.order(3, 1), 1);
        Check.due("last of its job", shop.property(2, 4), 1);
        Check.refused("machine 4", IndexOutOfBoundsException.class, () -> shop.addOperation(0, 4, 1, 0));
        Check.refused("job 2", IndexOutOfBoundsException.class, () -> shop.addOperation(2, 0, 1, 0));
        Check.refused("duration 0", IllegalArgumentException.class, () -> shop.addOperation(0, 0, 0, 0));
        Check.refused("duration 31", IllegalArgumentException.class, () -> shop.addOperation(0, 0, 31, 0));
        Check.refused("family 3", IllegalArgumentException.class, () -> shop.addOperation(0, 0, 1, 3));
        Check.refused("machine before duration", IndexOutOfBoundsException.class,
                () -> shop.addOperation(0, 4, 0, 0));
        Check.refused("duration before second on machine", IllegalArgumentException.class,
                () -> shop.addOperation(0, 3, 0, 0));
        Check.refused("second on machine", IllegalStateException.class, () -> shop.addOperation(0, 3, 1, 0));
        for (int far : FAR) {
            Check.refused("job", IndexOutOfBoundsException.class, () -> shop.addOperation(far, 0, 1, 0));
            Check.refused("machine", IndexOutOfBoundsException.class, () -> shop.addOperation(0, far, 1, 0));
            Check.refused("duration", IllegalArgumentException.class, () -> shop.addOperation(0, 0, far, 0));
            Check.refused("family", IllegalArgumentException.class, () -> shop.addOperation(0, 0, 1, far));
        }
        Check.due("operations", shop.count(1), 3);
    }

    private static void promise3FullJob() {
        SetupJobShop shop = new SetupJobShop();
        for (int job = 0; job < 5; job++) {
            shop.addJob(0, 0, 0);
            for (int machine = 0; machine < 4; machine++) {
                Check.due("operation", shop.addOperation(job, machine, 1, 0), 4 * job + machine);
            }
        }
        Check.refused("fifth operation", IllegalStateException.class, () -> shop.addOperation(4, 0, 1, 0));
        Check.due("operations", shop.count(1), 20);
        Check.due("last one on its machine", shop.order(3, 4), 19);
    }

    private static void promise4SetJob() {
        SetupJobShop shop = new SetupJobShop();
        shop.addJob(1, 2, 3);
        shop.addOperation(0, 0, 5, 0);
        Check.due("release", shop.setJob(0, 0, 99), 1);
        Check.due("makespan", shop.makespan(), 104);
        Check.due("due", shop.setJob(0, 1, 200), 2);
        Check.due("weight", shop.setJob(0, 2, 9), 3);
        int[] tooMuch = {100, 201, 10};
        for (int what = 0; what < 3; what++) {
            int which = what;
            Check.refused("too much", IllegalArgumentException.class, () -> shop.setJob(0, which, tooMuch[which]));
            Check.refused("negative", IllegalArgumentException.class, () -> shop.setJob(0, which, -1));
        }
        Check.refused("what 3", IllegalArgumentException.class, () -> shop.setJob(0, 3, 1));
        Check.refused("what -1", IllegalArgumentException.class, () -> shop.setJob(0, -1, 1));
        Check.refused("job 1", IndexOutOfBoundsException.class, () -> shop.setJob(1, 3, 1));
        Check.refused("job -1", IndexOutOfBoundsException.class, () -> shop.setJob(-1, 0, 1));
        Check.due("release stays", shop.setJob(0, 0, 0), 99);
        Check.due("due stays", shop.setJob(0, 1, 0), 200);
        Check.due("weight stays", shop.setJob(0, 2, 0), 9);
    }

    private static void promise5SetDuration() {
        SetupJobShop shop = new SetupJobShop();
        shop.addJob(0, 0, 0);
        shop.addOperation(0, 0, 5, 0);
        Check.due("previous", shop.setDuration(0, 30), 5);
        Check.due("makespan", shop.makespan(), 30);
        Check.due("previous", shop.setDuration(0, 1), 30);
        Check.refused("duration 0", IllegalArgumentException.class, () -> shop.setDuration(0, 0));
        Check.refused("duration 31", IllegalArgumentException.class, () -> shop.setDuration(0, 31));
        Check.refused("operation 1", IndexOutOfBoundsException.class, () -> shop.setDuration(1, 0));
        Check.refused("operation -1", IndexOutOfBoundsException.class, () -> shop.setDuration(-1, 5));
        Check.due("duration stays", shop.property(0, 2), 1);
    }

    private static void promise6SetSetup() {
        SetupJobShop shop = new SetupJobShop();
        Check.due("previous", shop.setSetup(2, 1, 9), 0);
        Check.due("the other direction", shop.setSetup(1, 2, 4), 0);
        Check.due("previous", shop.setSetup(2, 1, 0), 9);
        Check.due("the same family", shop.setSetup(1, 1, 3), 0);
        Check.refused("time 10", IllegalArgumentException.class, () -> shop.setSetup(0, 0, 10));
        Check.refused("time -1", IllegalArgumentException.class, () -> shop.setSetup(0, 0, -1));
        Check.refused("from 3", IndexOutOfBoundsException.class, () -> shop.setSetup(3, 0, 10));
        Check.refused("to 3", IndexOutOfBoundsException.class, () -> shop.setSetup(0, 3, 1));
        Check.refused("from -1", IndexOutOfBoundsException.class, () -> shop.setSetup(-1, 0, 1));
        Check.refused("to -1", IndexOutOfBoundsException.class, () -> shop.setSetup(0, -1, 1));
        for (int job = 0; job < 2; job++) {
            shop.addJob(0, 0, 0);
            shop.addOperation(job, 0, 5, 1);
        }
        Check.due("setup within a family", shop.makespan(), 13);
    }

    private static void promise7AddBreakdown() {
        SetupJobShop shop = new SetupJobShop();
        shop.addJob(0, 0, 0);
        shop.addOperation(0, 1, 2, 0);
        Check.refused("first 401", IllegalArgumentException.class, () -> shop.addBreakdown(1, 401, 1));
        Check.refused("first -1", IllegalArgumentException.class, () -> shop.addBreakdown(1, -1, 1));
        Check.refused("length 0", IllegalArgumentException.class, () -> shop.addBreakdown(1, 0, 0));
        Check.refused("length 61", IllegalArgumentException.class, () -> shop.addBreakdown(1, 0, 61));
        Check.refused("machine 4", IndexOutOfBoundsException.class, () -> shop.addBreakdown(4, 0, 0));
        Check.refused("machine -1", IndexOutOfBoundsException.class, () -> shop.addBreakdown(-1, 0, 1));
        Check.due("first one", shop.addBreakdown(1, 1, 60), 1);
        Check.due("behind it", shop.time(0, 1), 61);
        Check.due("overlapping", shop.addBreakdown(1, 62, 3), 2);
        Check.due("a gap of one unit is too short", shop.time(0, 1), 65);
        Check.due("third one", shop.addBreakdown(1, 400, 60), 3);
        Check.refused("fourth one", IllegalStateException.class, () -> shop.addBreakdown(1, 0, 1));
        Check.refused("fourth one, bad length", IllegalArgumentException.class, () -> shop.addBreakdown(1, 0, 0));
        Check.due("another machine", shop.addBreakdown(0, 0, 1), 1);
        Check.due("start stays", shop.time(0, 1), 65);
    }

    private static void promise8ClearBreakdowns() {
        SetupJobShop shop = new SetupJobShop();
        shop.addJob(0, 0, 0);
        shop.addOperation(0, 3, 2, 0);
        shop.addBreakdown(3, 0, 4);
        shop.addBreakdown(3, 0, 9);
        shop.addBreakdown(2, 0, 9);
        Check.due("makespan", shop.makespan(), 11);
        Check.due("removed", shop.clearBreakdowns(3), 2);
        Check.due("makespan", shop.makespan(), 2);
        Check.due("none left", shop.clearBreakdowns(3), 0);
        Check.due("the other machine", shop.clearBreakdowns(2), 1);
        Check.due("room again", shop.addBreakdown(3, 0, 1), 1);
        Check.refused("machine 4", IndexOutOfBoundsException.class, () -> shop.clearBreakdowns(4));
        Check.refused("machine -1", IndexOutOfBoundsException.class, () -> shop.clearBreakdowns(-1));
    }

    private static void promise9Count() {
        SetupJobShop shop = new SetupJobShop();
        shop.addJob(0, 0, 0);
        shop.addJob(0, 0, 0);
        shop.addOperation(1, 0, 1, 0);
        shop.addOperation(1, 1, 1, 0);
        shop.addOperation(0, 1, 1, 0);
        Check.due("jobs", shop.count(0), 2);
        Check.due("operations", shop.count(1), 3);
        Check.refused("what 2", IllegalArgumentException.class, () -> shop.count(2));
        Check.refused("what -1", IllegalArgumentException.class, () -> shop.count(-1));
    }

    private static void promise10Property() {
        SetupJobShop shop = new SetupJobShop();
        shop.addJob(0, 0, 0);
        shop.addJob(0, 0, 0);
        shop.addOperation(0, 2, 9, 0);
        shop.addOperation(1, 3, 8, 1);
        shop.addOperation(1, 2, 7, 2);
        int[] want = {1, 2, 7, 2, 1, 1};
        for (int what = 0; what <= 5; what++) {
            Check.due("property " + what, shop.property(2, what), want[what]);
        }
        shop.move(2, 0);
        Check.due("position", shop.property(2, 5), 0);
        Check.due("position of the other one", shop.property(0, 5), 1);
        Check.refused("what 6", IllegalArgumentException.class, () -> shop.property(0, 6));
        Check.refused("what -1", IllegalArgumentException.class, () -> shop.property(0, -1));
        Check.refused("operation 3", IndexOutOfBoundsException.class, () -> shop.property(3, 6));
        Check.refused("operation -1", IndexOutOfBoundsException.class, () -> shop.property(-1, 0));
    }

    private static void promise11Order() {
        SetupJobShop shop = new SetupJobShop();
        shop.addJob(0, 0, 0);
        shop.addJob(0, 0, 0);
        shop.addOperation(0, 0, 1, 0);
        shop.addOperation(1, 1, 1, 0);
        shop.addOperation(1, 0, 1, 0);
        Check.due("first", shop.order(0, 0), 0);
        Check.due("second", shop.order(0, 1), 2);
        Check.due("other machine", shop.order(1, 0), 1);
        Check.refused("position 2", NoSuchElementException.class, () -> shop.order(0, 2));
        Check.refused("position -1", NoSuchElementException.class, () -> shop.order(0, -1));
        Check.refused("empty machine", NoSuchElementException.class, () -> shop.order(3, 0));
        Check.refused("machine 4", IndexOutOfBoundsException.class, () -> shop.order(4, -1));
        Check.refused("machine -1", IndexOutOfBoundsException.class, () -> shop.order(-1, 0));
    }
}
