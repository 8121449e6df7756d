import java.util.NoSuchElementException;

/** Promises 12 to 21: times, makespan, slack, objectives and the critical path. */
public final class ScheduleTest {
    public static void main(String[] args) {
        promise12Time();
        promise12TimeWithBreakdowns();
        promise13Makespan();
        promise14Slack();
        promise14SlackAtABreakdown();
        promise15Completion();
        promise16Objective();
        promise17Utilization();
        promise18And19Path();
        promise18PathPrefersTheJob();
        promise18PathThroughABreakdown();
        promise20And21Blocks();
        Check.end();
    }

    /** Machine 0 has the order 0, 2, machine 1 the order 1, 3; the setups between them take 3 and 2. */
    private static SetupJobShop twoJobs() {
        SetupJobShop shop = new SetupJobShop();
        shop.addJob(2, 10, 3);
        shop.addOperation(0, 0, 4, 0);
        shop.addOperation(0, 1, 3, 1);
        shop.addJob(0, 9, 2);
        shop.addOperation(1, 0, 5, 2);
        shop.addOperation(1, 1, 2, 0);
        shop.setSetup(0, 2, 3);
        shop.setSetup(1, 0, 2);
        return shop;
    }

    private static void dueTimes(SetupJobShop shop, int operation, int ready, int start, int end) {
        Check.due("ready time of " + operation, shop.time(operation, 0), ready);
        Check.due("start of " + operation, shop.time(operation, 1), start);
        Check.due("end of " + operation, shop.time(operation, 2), end);
    }

    private static void promise12Time() {
        SetupJobShop shop = twoJobs();
        dueTimes(shop, 0, 2, 2, 6);
        dueTimes(shop, 1, 6, 6, 9);
        dueTimes(shop, 2, 9, 9, 14);
        dueTimes(shop, 3, 14, 14, 16);
        Check.refused("what 3", IllegalArgumentException.class, () -> shop.time(0, 3));
        Check.refused("what -1", IllegalArgumentException.class, () -> shop.time(0, -1));
        Check.refused("operation 4", IndexOutOfBoundsException.class, () -> shop.time(4, 3));
        Check.refused("operation -1", IndexOutOfBoundsException.class, () -> shop.time(-1, 0));
    }

    private static void promise12TimeWithBreakdowns() {
        SetupJobShop shop = twoJobs();
        shop.addBreakdown(1, 7, 2);
        dueTimes(shop, 1, 6, 9, 12);
        dueTimes(shop, 3, 14, 14, 16);
        shop.clearBreakdowns(1);
        shop.addBreakdown(1, 9, 5);
        dueTimes(shop, 1, 6, 6, 9);
        dueTimes(shop, 3, 14, 14, 16);
        shop.addBreakdown(1, 15, 2);
        shop.addBreakdown(1, 13, 1);
        dueTimes(shop, 3, 14, 17, 19);
    }

    private static void promise13Makespan() {
        SetupJobShop shop = new SetupJobShop();
        Check.due("without jobs", shop.makespan(), 0);
        shop.addJob(50, 0, 0);
        Check.due("without operations", shop.makespan(), 0);
        shop.addOperation(0, 2, 7, 0);
        Check.due("one operation", shop.makespan(), 57);
        Check.due("two jobs", twoJobs().makespan(), 16);
    }

    private static void promise14Slack() {
        SetupJobShop shop = twoJobs();
        int[] want = {0, 3, 0, 0};
        for (int operation = 0; operation < 4; operation++) {
            Check.due("slack of " + operation, shop.slack(operation), want[operation]);
        }
        Check.due("makespan stays", shop.makespan(), 16);
        Check.due("nothing is held back later", shop.best(1), 16);
        Check.refused("operation 4", IndexOutOfBoundsException.class, () -> shop.slack(4));
        Check.refused("operation -1", IndexOutOfBoundsException.class, () -> shop.slack(-1));
        SetupJobShop late = new SetupJobShop();
        late.addJob(0, 0, 0);
        late.addOperation(0, 0, 1, 0);
        late.addJob(61, 0, 0);
        late.addOperation(1, 1, 1, 0);
        Check.due("more than 60", late.slack(0), 60);
        late.setJob(1, 0, 60);
        Check.due("just 60", late.slack(0), 60);
        late.setJob(1, 0, 59);
        Check.due("59", late.slack(0), 59);
    }

    private static void promise14SlackAtABreakdown() {
        SetupJobShop shop = new SetupJobShop();
        shop.addJob(0, 0, 0);
        shop.addOperation(0, 0, 2, 0);
        shop.addJob(0, 0, 0);
        shop.addOperation(1, 1, 8, 0);
        Check.due("without the breakdown", shop.slack(0), 6);
        shop.addBreakdown(0, 5, 10);
        Check.due("up to the breakdown", shop.slack(0), 3);
        shop.clearBreakdowns(0);
        shop.addBreakdown(0, 1, 3);
        Check.due("behind the breakdown", shop.slack(0), 2);
    }

    private static void promise15Completion() {
        SetupJobShop shop = twoJobs();
        shop.addJob(77, 0, 0);
        shop.addJob(70, 0, 0);
        shop.addOperation(3, 3, 4, 0);
        Check.due("job 0", shop.completion(0), 9);
        Check.due("job 1", shop.completion(1), 16);
        Check.due("without operations", shop.completion(2), 77);
        Check.due("one operation", shop.completion(3), 74);
        Check.refused("job 4", IndexOutOfBoundsException.class, () -> shop.completion(4));
        Check.refused("job -1", IndexOutOfBoundsException.class, () -> shop.completion(-1));
    }

    private static void dueObjectives(SetupJobShop shop, int... want) {
        for (int what = 0; what < want.length; what++) {
            Check.due("objective " + what, shop.objective(what), want[what]);
        }
    }

    private static void promise16Objective() {
        SetupJobShop shop = twoJobs();
        dueObjectives(shop, 25, 14, 1, 5, 0);
        shop.addBreakdown(1, 7, 2);
        dueObjectives(shop, 28, 6 + 14, 2, 5, 3);
        shop.addJob(77, 70, 9);
        dueObjectives(shop, 28 + 77, 20 + 63, 3, 5, 3);
        shop.setJob(2, 1, 76);
        dueObjectives(shop, 28 + 77, 20 + 9, 3, 5, 3);
        shop.setJob(2, 1, 77);
        dueObjectives(shop, 28 + 77, 20, 2, 5, 3);
        Check.refused("what 5", IllegalArgumentException.class, () -> shop.objective(5));
        Check.refused("what -1", IllegalArgumentException.class, () -> shop.objective(-1));
    }

    private static void promise17Utilization() {
        SetupJobShop shop = twoJobs();
        Check.due("machine 0", shop.utilization(0), 9.0 / 16.0);
        Check.due("machine 1", shop.utilization(1), 5.0 / 16.0);
        Check.due("machine 2", shop.utilization(2), 0.0);
        Check.refused("machine 4", IndexOutOfBoundsException.class, () -> shop.utilization(4));
        Check.refused("machine -1", IndexOutOfBoundsException.class, () -> shop.utilization(-1));
        SetupJobShop empty = new SetupJobShop();
        empty.addJob(5, 0, 0);
        Check.due("makespan 0", empty.utilization(0), 0.0);
        empty.addOperation(0, 3, 1, 0);
        Check.due("a sixth", empty.utilization(3), 1.0 / 6.0);
        empty.setJob(0, 0, 0);
        Check.due("makespan 1", empty.utilization(3), 1.0);
    }

    private static void duePath(SetupJobShop shop, int... want) {
        Check.due("path length", shop.pathLength(), want.length);
        for (int index = 0; index < want.length; index++) {
            Check.due("path at " + index, shop.path(index), want[index]);
        }
        Check.refused("behind the path", NoSuchElementException.class, () -> shop.path(want.length));
        Check.refused("before the path", NoSuchElementException.class, () -> shop.path(-1));
    }

    private static void promise18And19Path() {
        duePath(new SetupJobShop());
        Check.due("without another call before", twoJobs().path(2), 3);
        duePath(twoJobs(), 0, 2, 3);
        SetupJobShop shop = new SetupJobShop();
        for (int job = 0; job < 3; job++) {
            shop.addJob(job, 0, 0);
            shop.addOperation(job, job, 9 - job, 0);
        }
        duePath(shop, 0);
        shop.setDuration(2, 8);
        duePath(shop, 2);
    }

    /** Operation 2 is ready when both its predecessors have ended. */
    private static void promise18PathPrefersTheJob() {
        SetupJobShop shop = new SetupJobShop();
        shop.addJob(0, 0, 0);
        shop.addOperation(0, 0, 5, 0);
        shop.addJob(0, 0, 0);
        shop.addOperation(1, 1, 5, 0);
        shop.addOperation(1, 0, 1, 0);
        duePath(shop, 1, 2);
        shop.setDuration(0, 6);
        duePath(shop, 0, 2);
        shop.setSetup(0, 0, 1);
        shop.setDuration(0, 5);
        duePath(shop, 0, 2);
        shop.setJob(1, 0, 1);
        duePath(shop, 1, 2);
    }

    /** The ready time counts, not the start; a start that follows from the release ends the path. */
    private static void promise18PathThroughABreakdown() {
        SetupJobShop shop = new SetupJobShop();
        shop.addJob(0, 0, 0);
        shop.addOperation(0, 0, 5, 0);
        shop.addOperation(0, 1, 2, 0);
        shop.addBreakdown(1, 4, 6);
        duePath(shop, 0, 1);
        shop.addJob(6, 0, 0);
        shop.addOperation(1, 0, 30, 0);
        duePath(shop, 2);
        shop.setJob(1, 0, 5);
        duePath(shop, 0, 2);
    }

    private static void dueBlocks(SetupJobShop shop, int... want) {
        Check.due("blocks", shop.blocks(), want.length);
        for (int index = 0; index < want.length; index++) {
            Check.due("block " + index, shop.blockLength(index), want[index]);
        }
        Check.refused("behind the blocks", NoSuchElementException.class, () -> shop.blockLength(want.length));
        Check.refused("before the blocks", NoSuchElementException.class, () -> shop.blockLength(-1));
    }

    private static void promise20And21Blocks() {
        dueBlocks(new SetupJobShop());
        Check.due("without another call before", twoJobs().blockLength(0), 2);
        SetupJobShop shop = twoJobs();
        dueBlocks(shop, 2, 1);
        shop.addJob(0, 0, 0);
        shop.addOperation(2, 1, 9, 0);
        shop.addOperation(2, 2, 9, 0);
        duePath(shop, 0, 2, 3, 4, 5);
        dueBlocks(shop, 2, 2, 1);
    }
}
