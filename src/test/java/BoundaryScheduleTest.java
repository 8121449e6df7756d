import java.io.IOException;

/** Promises 12 to 21, the boundary cases: each test names its promise and its sentence. */
public final class BoundaryScheduleTest {
    public static void main(String[] args) throws IOException {
        promise12ReadyTime();
        promise12End();
        promise12NoPredecessors();
        promise12BreakdownsAroundAnOperation();
        promise12GapsBetweenBreakdowns();
        promise12NoSuchOperation();
        promise12What();
        promise13WithoutOperations();
        promise13GreatestEnd();
        promise14From0To60();
        promise14MakespanStays();
        promise14PresentStart();
        promise14NoSuchOperation();
        promise15WithoutOperations();
        promise15NoSuchJob();
        promise16Tardiness();
        promise16Setups();
        promise16Waits();
        promise16What();
        promise17Makespan0();
        promise17Quotients();
        promise17NoSuchMachine();
        promise18WithoutOperations();
        promise18OfSeveralTheLowest();
        promise18JobBeforeMachine();
        promise18FirstOfThePath();
        promise18ReadyTimeNotStart();
        promise18Longest();
        promise19NoSuchIndex();
        promise20WithoutOperations();
        promise20Numbers();
        promise21Lengths();
        promise21NoSuchBlock();
        Boundary.end(12, 21);
    }

    /** Twenty operations of 30, each behind the one before it, with setups of 9 between the jobs, from 99 on. */
    private static SetupJobShop serial() {
        SetupJobShop shop = new SetupJobShop();
        shop.setSetup(0, 0, 9);
        for (int job = 0; job < 5; job++) {
            shop.addJob(99, 200, 9);
            for (int step = 0; step < 4; step++) {
                shop.addOperation(job, job % 2 == 0 ? step : 3 - step, 30, 0);
            }
        }
        return shop;
    }

    private static String times(SetupJobShop shop, int operation) {
        return shop.time(operation, 0) + " " + shop.time(operation, 1) + " " + shop.time(operation, 2);
    }

    // Promise 12.

    /** Operation 0 ends at 5 and the setup to family 1 takes 2, so the machine is ready at 7. */
    private static void promise12ReadyTime() {
        Boundary.sentence(12, "The ready time of an operation is the greatest one of the release of its job, the end of "
                + "the operation before it in its job, and the end of the operation before it in the order of its "
                + "machine plus the setup time from the family of that operation to its own family.");
        for (int time = 6; time <= 8; time++) {
            int ready = Math.max(time, 7);
            SetupJobShop release = Boundary.shopOf("0,0,0:0.5.0;" + time + ",0,0:0.3.1");
            release.setSetup(0, 1, 2);
            Boundary.due("release " + time, times(release, 1), ready + " " + ready + " " + (ready + 3));
            SetupJobShop before = Boundary.shopOf("0,0,0:0.5.0;0,0,0:1." + time + ".2/0.3.1");
            before.setSetup(0, 1, 2);
            Boundary.due("job until " + time, times(before, 2), ready + " " + ready + " " + (ready + 3));
        }
        SetupJobShop all = Boundary.shopOf("0,0,0:0.5.0;2,0,0:1.5.2/0.3.1");
        all.setSetup(0, 1, 2);
        Boundary.due("both at 7", times(all, 2), "7 7 10");
        all.setSetup(0, 1, 9);
        Boundary.due("the greatest setup", times(all, 2), "14 14 17");
        all.setSetup(0, 1, 0);
        Boundary.due("the least setup", times(all, 2), "7 7 10");
        all.setDuration(0, 8);
        Boundary.due("the machine alone", times(all, 2), "8 8 11");
    }

    private static void promise12End() {
        Boundary.sentence(12, "Its end is its start plus its duration.");
        for (int duration : new int[] {1, 30}) {
            SetupJobShop shop = Boundary.row(0, duration);
            Boundary.due("from 0", shop.time(0, 2), duration);
            shop.addBreakdown(0, 0, 60);
            Boundary.due("from 60", shop.time(0, 2), 60 + duration);
        }
    }

    private static void promise12NoPredecessors() {
        Boundary.sentence(12, "The predecessors of an operation are the operation before it in its job and the "
                + "operation before it in the order of its machine, if they exist.");
        for (int release : new int[] {0, 99}) {
            SetupJobShop shop = Boundary.row(0, 1);
            shop.setSetup(0, 0, 9);
            shop.setJob(0, 0, release);
            Boundary.due("release " + release, times(shop, 0), release + " " + release + " " + (release + 1));
        }
        SetupJobShop two = Boundary.row(0, 4, 4);
        two.setSetup(0, 0, 9);
        Boundary.due("the second one", times(two, 1), "13 13 17");
        two.swap(0, 0);
        Boundary.due("the first one now", times(two, 1), "0 0 4");
        Boundary.due("the second one now", times(two, 0), "13 13 17");
        SetupJobShop third = Boundary.row(0, 4, 4, 4);
        third.setJob(1, 0, 50);
        Boundary.due("only the one just before counts", times(third, 2), "54 54 58");
    }

    private static void promise12BreakdownsAroundAnOperation() {
        Boundary.sentence(12, "it covers the units of time from its first time to its first time plus its length minus "
                + "1");
        int[][] cases = {{5, 1, 0}, {4, 1, 5}, {0, 1, 1}, {0, 3, 3}, {2, 60, 62}, {4, 60, 64}, {5, 60, 0}, {400, 60, 0}};
        for (int[] each : cases) {
            SetupJobShop shop = Boundary.row(3, 5);
            shop.addBreakdown(3, each[0], each[1]);
            Boundary.due("breakdown " + each[0] + ", " + each[1], times(shop, 0),
                    "0 " + each[2] + " " + (each[2] + 5));
        }
        int[][] releases = {{9, 13}, {10, 13}, {12, 13}, {13, 13}, {14, 14}, {6, 13}, {5, 5}, {4, 4}};
        for (int[] each : releases) {
            SetupJobShop shop = Boundary.row(3, 5);
            shop.addBreakdown(3, 10, 3);
            shop.setJob(0, 0, each[0]);
            Boundary.due("ready at " + each[0], times(shop, 0), each[0] + " " + each[1] + " " + (each[1] + 5));
        }
        SetupJobShop other = Boundary.row(3, 5);
        other.addBreakdown(2, 0, 60);
        Boundary.due("another machine", times(other, 0), "0 0 5");
        SetupJobShop after = Boundary.row(3, 5, 5);
        after.addBreakdown(3, 8, 1);
        Boundary.due("the next one is ready when this one ends", times(after, 1), "5 9 14");
        SetupJobShop moved = Boundary.row(3, 5, 5);
        moved.addBreakdown(3, 4, 1);
        Boundary.due("the next one waits for a delayed one", times(moved, 1), "10 10 15");
    }

    private static void promise12GapsBetweenBreakdowns() {
        Boundary.sentence(12, "It starts at the least time, not less than the ready time, for which none of the units "
                + "from its start to its start plus its duration minus 1 is covered by a breakdown of its machine.");
        SetupJobShop fits = Boundary.row(0, 5);
        fits.addBreakdown(0, 0, 2);
        fits.addBreakdown(0, 7, 1);
        Boundary.due("a gap as long as the duration", fits.time(0, 1), 2);
        SetupJobShop tight = Boundary.row(0, 5);
        tight.addBreakdown(0, 0, 2);
        tight.addBreakdown(0, 6, 1);
        Boundary.due("a gap one unit too short", tight.time(0, 1), 7);
        int[][] threes = {{0, 4, 8}, {0, 8, 4}, {4, 0, 8}, {4, 8, 0}, {8, 0, 4}, {8, 4, 0}};
        for (int[] firsts : threes) {
            SetupJobShop shop = Boundary.row(0, 4);
            for (int first : firsts) {
                shop.addBreakdown(0, first, 1);
            }
            Boundary.due("two gaps one unit too short", shop.time(0, 1), 9);
            shop.setDuration(0, 3);
            Boundary.due("two gaps just long enough", shop.time(0, 1), 1);
        }
        SetupJobShop touching = Boundary.row(0, 1);
        touching.addBreakdown(0, 60, 60);
        touching.addBreakdown(0, 0, 60);
        touching.addBreakdown(0, 120, 60);
        Boundary.due("three that touch", touching.time(0, 1), 180);
    }

    private static void promise12NoSuchOperation() {
        Boundary.sentence(12, "Throws `IndexOutOfBoundsException` if there is no such operation");
        SetupJobShop empty = new SetupJobShop();
        empty.addJob(0, 0, 0);
        Boundary.refused("operation 0 of none", Boundary.INDEX, () -> empty.time(0, 0));
        Boundary.due("operation 19", serial().time(19, 2), 735);
        Boundary.refused("operation 20", Boundary.INDEX, Boundary::full, shop -> shop.time(20, 0));
        Boundary.refused("operation 7 of seven", Boundary.INDEX, Boundary::rich, shop -> shop.time(7, 0));
        for (int far : Boundary.FAR) {
            Boundary.refused("operation " + far, Boundary.INDEX, Boundary::rich, shop -> shop.time(far, 0));
        }
        Boundary.sentence(12, "the one that is listed first determines the exception.");
        Boundary.refused("operation before what", Boundary.INDEX, Boundary::rich, shop -> shop.time(7, 3));
        Boundary.refused("operation before what", Boundary.INDEX, Boundary::rich, shop -> shop.time(-1, -1));
    }

    private static void promise12What() {
        Boundary.sentence(12, "Throws `IllegalArgumentException` if what is not from 0 to 2");
        SetupJobShop shop = Boundary.row(0, 5);
        shop.setJob(0, 0, 3);
        shop.addBreakdown(0, 4, 3);
        Boundary.due("0, 1 and 2", times(shop, 0), "3 7 12");
        Boundary.refused("what 3", Boundary.ARGUMENT, Boundary::rich, rich -> rich.time(0, 3));
        for (int far : Boundary.FAR) {
            Boundary.refused("what " + far, Boundary.ARGUMENT, Boundary::rich, rich -> rich.time(0, far));
        }
    }

    // Promise 13.

    private static void promise13WithoutOperations() {
        Boundary.sentence(13, "The makespan is the greatest end of an operation, 0 without operations.");
        SetupJobShop shop = new SetupJobShop();
        Boundary.due("no jobs", shop.makespan(), 0);
        for (int job = 0; job < 5; job++) {
            shop.addJob(99, 200, 9);
        }
        shop.addBreakdown(0, 0, 60);
        Boundary.due("five jobs without operations", shop.makespan(), 0);
        shop.addOperation(0, 1, 1, 0);
        Boundary.due("one operation", shop.makespan(), 100);
        shop.setJob(0, 0, 0);
        Boundary.due("the least makespan of an operation; no release counts", shop.makespan(), 1);
    }

    private static void promise13GreatestEnd() {
        Boundary.sentence(13, "The makespan is the greatest end of an operation");
        SetupJobShop shop = Boundary.shopOf("0,0,0:0.9.0;0,0,0:1.8.0;0,0,0:2.7.0");
        Boundary.due("the first one", shop.makespan(), 9);
        shop.setDuration(2, 10);
        Boundary.due("the last one", shop.makespan(), 10);
        shop.setDuration(1, 11);
        Boundary.due("the one between them", shop.makespan(), 11);
        Boundary.due("all after one another", serial().makespan(), 99 + 20 * 30 + 4 * 9);
    }

    // Promise 14.

    private static void promise14From0To60() {
        Boundary.sentence(14, "the greatest d from 0 to 60");
        int[][] cases = {{0, 0}, {1, 1}, {59, 59}, {60, 60}, {61, 60}, {99, 60}};
        for (int[] each : cases) {
            SetupJobShop shop = Boundary.shopOf("0,0,0:0.1.0;" + each[0] + ",0,0:1.1.0");
            Boundary.due("room of " + each[0], shop.slack(0), each[1]);
            Boundary.due("the last one", shop.slack(1), 0);
        }
        Boundary.due("alone", Boundary.row(2, 30).slack(0), 0);
    }

    private static void promise14MakespanStays() {
        Boundary.sentence(14, "for which the makespan would stay the same");
        SetupJobShop shop = Boundary.shopOf("0,0,0:0.2.0/1.3.0;0,0,0:2.10.0;0,0,0:0.1.0");
        Boundary.due("with one behind it in its job", shop.slack(0), 5);
        Boundary.due("the one behind it", shop.slack(1), 5);
        Boundary.due("the longest", shop.slack(2), 0);
        Boundary.due("behind it on its machine", shop.slack(3), 7);
        shop.setSetup(0, 0, 6);
        Boundary.due("with a setup on its machine", shop.slack(0), 1);
        shop.setSetup(0, 0, 7);
        Boundary.due("with a greater setup", shop.slack(0), 0);
        SetupJobShop broken = Boundary.shopOf("0,0,0:0.2.0/1.3.0;0,0,0:2.10.0");
        broken.addBreakdown(1, 5, 2);
        Boundary.due("the other one jumps over the breakdown, to 10", broken.slack(0), 5);
        broken.setDuration(2, 9);
        Boundary.due("10 is too much", broken.slack(0), 0);
        Boundary.due("nothing is moved", times(broken, 1), "2 2 5");
        Boundary.due("nor the makespan", broken.makespan(), 9);
        Boundary.due("nor what could be reached", broken.best(0), 9);
    }

    /** Operation 0 is ready at 0, but starts at 4. */
    private static void promise14PresentStart() {
        Boundary.sentence(14, "if the operation could not start before its present start plus d");
        SetupJobShop shop = Boundary.shopOf("0,0,0:0.2.0;0,0,0:1.9.0");
        shop.addBreakdown(0, 1, 3);
        Boundary.due("from its start, not from its ready time", shop.slack(0), 3);
        shop.addBreakdown(0, 7, 60);
        Boundary.due("up to the next breakdown", shop.slack(0), 1);
        shop.addBreakdown(0, 6, 1);
        Boundary.due("between two breakdowns", shop.slack(0), 0);
        SetupJobShop jump = Boundary.shopOf("0,0,0:0.2.0;66,0,0:1.30.0");
        jump.addBreakdown(0, 10, 60);
        Boundary.due("d within a breakdown counts if its end is early enough", jump.slack(0), 60);
        jump.setJob(1, 0, 41);
        Boundary.due("and not if it is too late", jump.slack(0), 8);
        jump.setJob(1, 0, 42);
        Boundary.due("just early enough", jump.slack(0), 60);
    }

    private static void promise14NoSuchOperation() {
        Boundary.sentence(14, "Throws `IndexOutOfBoundsException` if there is no such operation");
        SetupJobShop empty = new SetupJobShop();
        empty.addJob(0, 0, 0);
        Boundary.refused("operation 0 of none", Boundary.INDEX, () -> empty.slack(0));
        Boundary.due("operation 19", serial().slack(19), 0);
        Boundary.refused("operation 20", Boundary.INDEX, Boundary::full, shop -> shop.slack(20));
        Boundary.refused("operation 7 of seven", Boundary.INDEX, Boundary::rich, shop -> shop.slack(7));
        for (int far : Boundary.FAR) {
            Boundary.refused("operation " + far, Boundary.INDEX, Boundary::rich, shop -> shop.slack(far));
        }
    }

    // Promise 15.

    private static void promise15WithoutOperations() {
        Boundary.sentence(15, "the end of its last operation, or its release if it has no operations");
        SetupJobShop shop = new SetupJobShop();
        shop.addJob(99, 0, 0);
        shop.addJob(0, 0, 0);
        Boundary.due("release 99", shop.completion(0), 99);
        Boundary.due("release 0", shop.completion(1), 0);
        shop.addOperation(0, 0, 1, 0);
        Boundary.due("one operation", shop.completion(0), 100);
        shop.addOperation(0, 1, 2, 0);
        shop.addOperation(0, 2, 3, 0);
        shop.addOperation(0, 3, 4, 0);
        Boundary.due("four operations", shop.completion(0), 109);
        Boundary.due("the other job", shop.completion(1), 0);
    }

    private static void promise15NoSuchJob() {
        Boundary.sentence(15, "Throws `IndexOutOfBoundsException` if there is no such job");
        SetupJobShop empty = new SetupJobShop();
        Boundary.refused("job 0 of none", Boundary.INDEX, () -> empty.completion(0));
        Boundary.due("job 4", serial().completion(4), 735);
        Boundary.refused("job 5", Boundary.INDEX, Boundary::full, shop -> shop.completion(5));
        Boundary.refused("job 3 of three", Boundary.INDEX, Boundary::rich, shop -> shop.completion(3));
        for (int far : Boundary.FAR) {
            Boundary.refused("job " + far, Boundary.INDEX, Boundary::rich, shop -> shop.completion(far));
        }
    }

    // Promise 16.

    private static void promise16Tardiness() {
        Boundary.sentence(16, "the tardiness is the completion time minus the due time, but at least 0");
        int[][] cases = {{9, 3, 1}, {10, 0, 0}, {11, 0, 0}, {0, 30, 1}, {200, 0, 0}};
        for (int[] each : cases) {
            SetupJobShop shop = Boundary.row(1, 10);
            shop.setJob(0, 1, each[0]);
            shop.setJob(0, 2, 3);
            Boundary.due("weighted, due " + each[0], shop.objective(1), each[1]);
            Boundary.due("number, due " + each[0], shop.objective(2), each[2]);
        }
        Boundary.sentence(16, "2 for the number of jobs with a positive tardiness");
        SetupJobShop light = Boundary.row(1, 10);
        Boundary.due("weight 0", light.objective(1), 0);
        Boundary.due("counts all the same", light.objective(2), 1);
        Boundary.sentence(16, "0 for the sum of the completion times of all jobs");
        SetupJobShop idle = new SetupJobShop();
        idle.addJob(99, 98, 9);
        idle.addJob(99, 99, 9);
        idle.addJob(1, 0, 2);
        Boundary.due("releases of jobs without operations", idle.objective(0), 199);
        Boundary.due("they are late too", idle.objective(1), 11);
        Boundary.due("two of them", idle.objective(2), 2);
        SetupJobShop most = serial();
        int sum = 0;
        for (int job = 1; job <= 5; job++) {
            sum += 99 + 120 * job + 9 * (job - 1);
        }
        Boundary.due("the sum of all ends", most.objective(0), sum);
        Boundary.due("all late but none early", most.objective(1), 9 * (19 + 148 + 277 + 406 + 535));
        Boundary.due("five late jobs", most.objective(2), 5);
    }

    private static void promise16Setups() {
        Boundary.sentence(16, "3 for the sum of the setup times between neighbours in the orders of all machines");
        SetupJobShop shop = new SetupJobShop();
        for (int pair = 0; pair < 9; pair++) {
            shop.setSetup(pair / 3, pair % 3, 9);
        }
        Boundary.due("no operations", shop.objective(3), 0);
        shop.addJob(0, 0, 0);
        for (int machine = 0; machine < 4; machine++) {
            shop.addOperation(0, machine, 1, 0);
        }
        Boundary.due("no neighbours", shop.objective(3), 0);
        shop.addJob(99, 0, 0);
        shop.addOperation(1, 3, 1, 1);
        Boundary.due("one pair, though nobody waits for it", shop.objective(3), 9);
        SetupJobShop three = Boundary.shopOf("0,0,0:0.1.0;0,0,0:0.1.1;0,0,0:0.1.2");
        for (int pair = 0; pair < 9; pair++) {
            three.setSetup(pair / 3, pair % 3, pair + 1);
        }
        Boundary.due("from 0 to 1 and from 1 to 2", three.objective(3), 2 + 6);
        three.swap(0, 1);
        Boundary.due("from 0 to 2 and from 2 to 1", three.objective(3), 3 + 8);
        SetupJobShop full = Boundary.full();
        for (int pair = 0; pair < 9; pair++) {
            full.setSetup(pair / 3, pair % 3, 9);
        }
        Boundary.due("sixteen pairs", full.objective(3), 16 * 9);
    }

    private static void promise16Waits() {
        Boundary.sentence(16, "4 for the sum over all operations of the start minus the ready time");
        SetupJobShop shop = Boundary.row(0, 5, 5);
        Boundary.due("no breakdown", shop.objective(4), 0);
        shop.addBreakdown(0, 10, 9);
        Boundary.due("just behind them", shop.objective(4), 0);
        shop.addBreakdown(0, 9, 1);
        Boundary.due("the second one waits from 5 to 19", shop.objective(4), 14);
        shop.addBreakdown(0, 0, 1);
        Boundary.due("the first one waits 1, the second from 6 to 19", shop.objective(4), 14);
    }

    private static void promise16What() {
        Boundary.sentence(16, "Throws `IllegalArgumentException` if what is not from 0 to 4");
        Boundary.due("what 0", serial().objective(0) > 0, true);
        Boundary.due("what 4", serial().objective(4), 0);
        Boundary.refused("what 5", Boundary.ARGUMENT, Boundary::rich, shop -> shop.objective(5));
        for (int far : Boundary.FAR) {
            Boundary.refused("what " + far, Boundary.ARGUMENT, Boundary::rich, shop -> shop.objective(far));
        }
    }

    // Promise 17.

    private static void promise17Makespan0() {
        Boundary.sentence(17, "0.0 if the makespan is 0.");
        SetupJobShop shop = new SetupJobShop();
        Boundary.due("no jobs", shop.utilization(0), 0.0);
        shop.addJob(99, 0, 0);
        for (int machine = 0; machine < 4; machine++) {
            Boundary.due("no operations", shop.utilization(machine), 0.0);
        }
    }

    private static void promise17Quotients() {
        Boundary.sentence(17, "Returns the sum of the durations of its operations divided by the makespan, both as "
                + "doubles");
        SetupJobShop shop = Boundary.row(3, 1);
        Boundary.due("always busy", shop.utilization(3), 1.0);
        Boundary.due("without operations", shop.utilization(0), 0.0);
        shop.setJob(0, 0, 2);
        Boundary.due("a third", shop.utilization(3), 1.0 / 3.0);
        SetupJobShop five = Boundary.row(0, 30, 30, 30, 30, 30);
        Boundary.due("five operations", five.utilization(0), 1.0);
        five.setSetup(0, 0, 9);
        Boundary.due("setups are no work", five.utilization(0), 150.0 / 186.0);
        Boundary.due("the longest schedule", serial().utilization(3), 150.0 / 735.0);
    }

    private static void promise17NoSuchMachine() {
        Boundary.sentence(17, "Throws `IndexOutOfBoundsException` if there is no such machine");
        SetupJobShop empty = new SetupJobShop();
        Boundary.refused("machine 4 without operations", Boundary.INDEX, () -> empty.utilization(4));
        Boundary.refused("machine 4", Boundary.INDEX, Boundary::rich, shop -> shop.utilization(4));
        for (int far : Boundary.FAR) {
            Boundary.refused("machine " + far, Boundary.INDEX, Boundary::rich, shop -> shop.utilization(far));
        }
    }

    // Promise 18.

    private static void promise18WithoutOperations() {
        Boundary.sentence(18, "Returns the number, 0 without operations.");
        SetupJobShop shop = new SetupJobShop();
        Boundary.due("no jobs", shop.pathLength(), 0);
        shop.addJob(99, 0, 0);
        Boundary.due("no operations", shop.pathLength(), 0);
        shop.addOperation(0, 0, 1, 0);
        Boundary.due("one operation", shop.pathLength(), 1);
    }

    private static void promise18OfSeveralTheLowest() {
        Boundary.sentence(18, "The last operation of the critical path is the operation with the greatest end, of "
                + "several the one with the lowest number.");
        SetupJobShop shop = Boundary.shopOf("0,0,0:3.5.0;0,0,0:2.5.0;0,0,0:1.5.0;0,0,0:0.4.0");
        Boundary.due("the first of three", Boundary.path(shop), "0");
        shop.setDuration(0, 4);
        Boundary.due("the first of two", Boundary.path(shop), "1");
        shop.setDuration(3, 6);
        Boundary.due("the last one alone", Boundary.path(shop), "3");
    }

    private static void promise18JobBeforeMachine() {
        Boundary.sentence(18, "Before an operation on the path stands the operation before it in its job, if its end "
                + "equals the ready time; otherwise the operation before it in the order of its machine, if its end "
                + "plus the setup time equals the ready time");
        for (int setup = 0; setup <= 2; setup++) {
            SetupJobShop shop = Boundary.shopOf("0,0,0:0.5.0;0,0,0:1.6.0/0.3.0");
            shop.setSetup(0, 0, setup);
            Boundary.due("setup " + setup, Boundary.path(shop), setup < 2 ? "1 2" : "0 2");
        }
    }

    private static void promise18FirstOfThePath() {
        Boundary.sentence(18, "otherwise the operation is the first one of the path");
        for (int release = 6; release <= 8; release++) {
            SetupJobShop shop = Boundary.shopOf("0,0,0:0.5.0;" + release + ",0,0:0.3.1");
            shop.setSetup(0, 1, 2);
            Boundary.due("release " + release, Boundary.path(shop), release < 8 ? "0 1" : "1");
        }
    }

    /** Operation 1 is ready at 5, and starts at 8 because of the breakdown. */
    private static void promise18ReadyTimeNotStart() {
        Boundary.sentence(18, "if its end equals the ready time");
        SetupJobShop job = Boundary.shopOf("0,0,0:0.5.0/1.2.0");
        job.addBreakdown(1, 5, 3);
        Boundary.due("in its job", Boundary.path(job), "0 1");
        Boundary.sentence(18, "if its end plus the setup time equals the ready time");
        SetupJobShop machine = Boundary.row(0, 5, 2);
        machine.addBreakdown(0, 5, 3);
        Boundary.due("on its machine", Boundary.path(machine), "0 1");
        machine.setJob(1, 0, 8);
        Boundary.due("a release behind the breakdown", Boundary.path(machine), "1");
        machine.setJob(1, 0, 6);
        Boundary.due("a release within the breakdown", Boundary.path(machine), "1");
        SetupJobShop setup = Boundary.row(0, 5, 2);
        setup.setSetup(0, 0, 2);
        setup.addBreakdown(0, 5, 3);
        Boundary.due("a setup that ends within the breakdown", Boundary.path(setup), "0 1");
    }

    private static void promise18Longest() {
        Boundary.sentence(18, "Returns the number of operations of the critical path.");
        SetupJobShop shop = serial();
        Boundary.due("all operations", shop.pathLength(), 20);
        Boundary.due("one after the other", Boundary.path(shop),
                "0 1 2 3 4 5 6 7 8 9 10 11 12 13 14 15 16 17 18 19");
    }

    // Promise 19.

    private static void promise19NoSuchIndex() {
        Boundary.sentence(19, "Throws `NoSuchElementException` if there is no such index");
        SetupJobShop empty = new SetupJobShop();
        empty.addJob(0, 0, 0);
        Boundary.refused("index 0 of none", Boundary.ELEMENT, () -> empty.path(0));
        Boundary.refused("index -1 of none", Boundary.ELEMENT, () -> empty.path(-1));
        SetupJobShop one = Boundary.row(0, 1);
        Boundary.due("index 0 of one", one.path(0), 0);
        Boundary.refused("index 1 of one", Boundary.ELEMENT, () -> one.path(1));
        Boundary.due("index 19 of twenty", serial().path(19), 19);
        Boundary.refused("index 20 of twenty", Boundary.ELEMENT, BoundaryScheduleTest::serial, shop -> shop.path(20));
        int length = Boundary.rich().pathLength();
        Boundary.refused("behind the last one", Boundary.ELEMENT, Boundary::rich, shop -> shop.path(length));
        for (int far : Boundary.FAR) {
            Boundary.refused("index " + far, Boundary.ELEMENT, Boundary::rich, shop -> shop.path(far));
        }
        Boundary.sentence(19, "the index, from 0 for the first one of the path");
        SetupJobShop two = Boundary.row(0, 1, 1);
        two.swap(0, 0);
        Boundary.due("the first one", two.path(0), 1);
        Boundary.due("the last one", two.path(1), 0);
        Boundary.refused("a shorter path than before", Boundary.ELEMENT, () -> {
            two.setJob(0, 0, 9);
            return two.path(1);
        });
    }

    // Promises 20 and 21.

    private static void promise20WithoutOperations() {
        Boundary.sentence(20, "Returns the number, 0 without operations.");
        SetupJobShop shop = new SetupJobShop();
        Boundary.due("no jobs", shop.blocks(), 0);
        shop.addJob(99, 0, 0);
        Boundary.due("no operations", shop.blocks(), 0);
        shop.addOperation(0, 0, 1, 0);
        Boundary.due("one operation", shop.blocks(), 1);
    }

    private static void promise20Numbers() {
        Boundary.sentence(20, "The blocks of the path are its longest sequences of consecutive operations of the same "
                + "machine.");
        Boundary.due("five on one machine", Boundary.row(3, 1, 1, 1, 1, 1).blocks(), 1);
        Boundary.due("four on four machines", Boundary.shopOf("0,0,0:0.1.0/1.1.0/2.1.0/3.1.0").blocks(), 4);
        Boundary.due("twenty with four pairs", serial().blocks(), 16);
        SetupJobShop again = Boundary.shopOf("0,0,0:0.1.0/1.1.0;0,0,0:1.1.0/0.1.0");
        Boundary.due("a machine that comes again is another block", again.blocks(), 3);
        again.setJob(1, 0, 9);
        Boundary.due("operations off the path count for none", again.blocks(), 2);
    }

    private static void promise21Lengths() {
        Boundary.sentence(21, "Returns the number of operations of a block of the critical path.");
        int[] want = {1, 1, 1, 2, 1, 1, 2, 1, 1, 2, 1, 1, 2, 1, 1, 1};
        SetupJobShop shop = serial();
        for (int index = 0; index < 16; index++) {
            Boundary.due("block " + index, shop.blockLength(index), want[index]);
        }
        Boundary.due("five on one machine", Boundary.row(3, 1, 1, 1, 1, 1).blockLength(0), 5);
        Boundary.due("one operation", Boundary.row(3, 1).blockLength(0), 1);
    }

    private static void promise21NoSuchBlock() {
        Boundary.sentence(21, "Throws `NoSuchElementException` if there is no such block");
        SetupJobShop empty = new SetupJobShop();
        empty.addJob(0, 0, 0);
        Boundary.refused("block 0 of none", Boundary.ELEMENT, () -> empty.blockLength(0));
        SetupJobShop one = Boundary.row(3, 1, 1, 1, 1, 1);
        Boundary.refused("block 1 of one", Boundary.ELEMENT, () -> one.blockLength(1));
        Boundary.refused("block 16 of sixteen", Boundary.ELEMENT, BoundaryScheduleTest::serial,
                shop -> shop.blockLength(16));
        int blocks = Boundary.rich().blocks();
        Boundary.refused("behind the last one", Boundary.ELEMENT, Boundary::rich, shop -> shop.blockLength(blocks));
        for (int far : Boundary.FAR) {
            Boundary.refused("block " + far, Boundary.ELEMENT, Boundary::rich, shop -> shop.blockLength(far));
        }
    }
}
