import java.io.IOException;
import java.util.Arrays;

/** Promises 1 to 11, the boundary cases: each test names its promise and its sentence. */
public final class BoundaryJobsTest {
    public static void main(String[] args) throws IOException {
        promise1NewObject();
        promise1ObjectsShareNothing();
        promise1EveryQuestionOfANewObject();
        promise1The512thCall();
        promise2Numbers();
        promise2WithoutOperations();
        promise2Ranges();
        promise2FullShop();
        promise3Numbers();
        promise3Machines();
        promise3NoSuchJobOrMachine();
        promise3Ranges();
        promise3FullJob();
        promise3TheEndOfTheOrder();
        promise3WhichException();
        promise4PreviousValue();
        promise4NoSuchJob();
        promise4Ranges();
        promise4TakesEffect();
        promise5PreviousDuration();
        promise5NoSuchOperation();
        promise5Range();
        promise6PreviousSetup();
        promise6NoSuchFamily();
        promise6Range();
        promise7Numbers();
        promise7NoSuchMachine();
        promise7Ranges();
        promise7Full();
        promise7WhichException();
        promise8Removed();
        promise8NoSuchMachine();
        promise9Counts();
        promise9What();
        promise10Properties();
        promise10NoSuchOperation();
        promise10What();
        promise11Positions();
        promise11NoSuchMachine();
        promise11NoSuchPosition();
        Boundary.end(1, 11);
    }

    // Promise 1.

    private static void promise1NewObject() {
        Boundary.sentence(1, "Creates a shop without jobs, without breakdowns, and with setup times 0.");
        SetupJobShop shop = new SetupJobShop();
        Boundary.due("jobs", shop.count(0), 0);
        Boundary.due("operations", shop.count(1), 0);
        for (int machine = 0; machine < 4; machine++) {
            Boundary.due("order", Boundary.order(shop, machine), "");
            Boundary.due("breakdowns", shop.clearBreakdowns(machine), 0);
        }
        for (int pair = 0; pair < 9; pair++) {
            Boundary.due("setup " + pair, shop.setSetup(pair / 3, pair % 3, 9), 0);
        }
    }

    private static void promise1ObjectsShareNothing() {
        Boundary.sentence(1, "Each one begins with a new object");
        String before = Boundary.allAnswers(new SetupJobShop(), true);
        SetupJobShop used = Boundary.full();
        used.shiftBottlenecks();
        used.addBreakdown(0, 0, 60);
        Check.answerOf(used::read);
        Boundary.due("a new object beside a used one", Boundary.allAnswers(new SetupJobShop(), true), before);
        Boundary.refused("restore", Boundary.STATE, () -> {
            new SetupJobShop().restore();
            return "restored";
        });
    }

    private static void promise1EveryQuestionOfANewObject() {
        Boundary.sentence(1, "Creates a shop without jobs");
        SetupJobShop shop = new SetupJobShop();
        Boundary.due("makespan", shop.makespan(), 0);
        Boundary.due("pathLength", shop.pathLength(), 0);
        Boundary.due("blocks", shop.blocks(), 0);
        Boundary.due("tabuSteps", shop.tabuSteps(), 0);
        Boundary.due("lowerBound", shop.lowerBound(), 0);
        Boundary.due("failure", shop.failure(0), 0);
        for (int what = 0; what < 5; what++) {
            Boundary.due("objective " + what, shop.objective(what), 0);
        }
        Boundary.refused("property", Boundary.INDEX, () -> shop.property(0, 0));
        Boundary.refused("time", Boundary.INDEX, () -> shop.time(0, 0));
        Boundary.refused("slack", Boundary.INDEX, () -> shop.slack(0));
        Boundary.refused("completion", Boundary.INDEX, () -> shop.completion(0));
        Boundary.refused("move", Boundary.INDEX, () -> shop.move(0, 0));
        Boundary.refused("path", Boundary.ELEMENT, () -> shop.path(0));
        Boundary.refused("blockLength", Boundary.ELEMENT, () -> shop.blockLength(0));
        Boundary.refused("bottleneck", Boundary.ELEMENT, () -> shop.bottleneck(0));
        for (int machine = 0; machine < 4; machine++) {
            int which = machine;
            Boundary.due("bound", shop.bound(machine), 0);
            Boundary.due("best", shop.best(machine), 0);
            Boundary.due("reoptimize", shop.reoptimize(machine), 0);
            Boundary.due("utilization", shop.utilization(machine), 0.0);
            Boundary.refused("order", Boundary.ELEMENT, () -> shop.order(which, 0));
            Boundary.refused("swap", Boundary.ELEMENT, () -> shop.swap(which, 0));
        }
        Boundary.due("dispatch", shop.dispatch(0), 0);
        Boundary.due("repair", shop.repair(999, 3), 0);
        Boundary.due("tabu", shop.tabu(20, 9), 0);
        Boundary.due("shiftBottlenecks", shop.shiftBottlenecks(), 0);
    }

    private static void promise1The512thCall() {
        Boundary.sentence(1, "An object is used for at most 512 calls after it has been made");
        SetupJobShop shop = Boundary.full();
        int calls = 5 + 20 + 2 + 3;
        int span = shop.shiftBottlenecks();
        for (calls++; calls < 511; calls++) {
            shop.shiftBottlenecks();
        }
        Boundary.due("the 512th call", shop.shiftBottlenecks(), span);
        SetupJobShop texts = new SetupJobShop();
        for (int turn = 0; turn < 6; turn++) {
            for (int i = 0; i < 80; i++) {
                texts.append((char) (i + 60 * turn));
            }
            Boundary.refused("text " + turn, Boundary.ARGUMENT, texts::read);
        }
    }

    // Promise 2.

    private static void promise2Numbers() {
        Boundary.sentence(2, "at most 5 jobs, numbered from 0 in the order of creation");
        SetupJobShop shop = new SetupJobShop();
        for (int job = 0; job < 5; job++) {
            Boundary.due("number", shop.addJob(10 + job, 20 + job, job), job);
            Boundary.due("jobs", shop.count(0), job + 1);
        }
        for (int job = 0; job < 5; job++) {
            Boundary.due("release", shop.setJob(job, 0, 0), 10 + job);
            Boundary.due("due time", shop.setJob(job, 1, 0), 20 + job);
            Boundary.due("weight", shop.setJob(job, 2, 0), job);
        }
    }

    private static void promise2WithoutOperations() {
        Boundary.sentence(2, "Creates a job without operations.");
        SetupJobShop shop = new SetupJobShop();
        shop.addJob(99, 98, 1);
        Boundary.due("operations", shop.count(1), 0);
        Boundary.due("completion is the release", shop.completion(0), 99);
        Boundary.due("makespan", shop.makespan(), 0);
        SetupJobShop again = new SetupJobShop();
        again.save();
        again.addJob(0, 0, 0);
        again.addOperation(0, 0, 5, 0);
        again.restore();
        again.addJob(7, 0, 0);
        Boundary.due("nothing of a job that was given up", again.completion(0), 7);
        Boundary.due("its machine is free", again.addOperation(0, 0, 1, 0), 0);
    }

    private static void promise2Ranges() {
        Boundary.sentence(2, "A job has a release from 0 to 99, a due time from 0 to 200, a weight from 0 to 9");
        int[] limits = {99, 200, 9};
        for (int what = 0; what < 3; what++) {
            int[] values = {0, 0, 0};
            SetupJobShop shop = new SetupJobShop();
            Boundary.due("least", shop.addJob(values[0], values[1], values[2]), 0);
            values[what] = limits[what];
            Boundary.due("greatest", shop.addJob(values[0], values[1], values[2]), 1);
            Boundary.due("is kept", shop.setJob(1, what, 0), limits[what]);
        }
        Boundary.due("all greatest", new SetupJobShop().addJob(99, 200, 9), 0);
        Boundary.sentence(2, "Throws `IllegalArgumentException` if an argument is out of range");
        for (int what = 0; what < 3; what++) {
            refuseJob(what, limits[what] + 1);
            for (int far : Boundary.FAR) {
                refuseJob(what, far);
            }
        }
    }

    private static void refuseJob(int what, int value) {
        int[] values = {0, 0, 0};
        values[what] = value;
        Boundary.refused("argument " + what + " is " + value, Boundary.ARGUMENT, Boundary::rich,
                shop -> shop.addJob(values[0], values[1], values[2]));
    }

    private static void promise2FullShop() {
        Boundary.sentence(2, "Throws `IllegalStateException` if there are 5 jobs");
        SetupJobShop shop = new SetupJobShop();
        for (int job = 0; job < 4; job++) {
            shop.addJob(0, 0, 0);
        }
        Boundary.due("the fifth job", shop.addJob(0, 0, 0), 4);
        Boundary.refused("the sixth job", Boundary.STATE, () -> shop.addJob(0, 0, 0));
        Boundary.refused("the sixth job", Boundary.STATE, Boundary::full, full -> full.addJob(99, 200, 9));
        Boundary.sentence(2, "the one that is listed first determines the exception.");
        Boundary.refused("release 100", Boundary.ARGUMENT, Boundary::full, full -> full.addJob(100, 0, 0));
        Boundary.refused("due time 201", Boundary.ARGUMENT, Boundary::full, full -> full.addJob(0, 201, 0));
        Boundary.refused("weight -1", Boundary.ARGUMENT, Boundary::full, full -> full.addJob(0, 0, -1));
        Boundary.sentence(2, "at most 5 jobs");
        SetupJobShop again = new SetupJobShop();
        again.save();
        for (int job = 0; job < 5; job++) {
            again.addJob(0, 0, 0);
        }
        again.restore();
        Boundary.due("room again", again.addJob(0, 0, 0), 0);
    }

    // Promise 3.

    private static void promise3Numbers() {
        Boundary.sentence(3, "Operations are numbered from 0 in the order of creation, over all jobs.");
        SetupJobShop shop = new SetupJobShop();
        for (int job = 0; job < 5; job++) {
            shop.addJob(0, 0, 0);
        }
        int next = 0;
        for (int machine = 3; machine >= 0; machine--) {
            for (int job = 4; job >= 0; job--) {
                Boundary.due("number", shop.addOperation(job, machine, 1, 0), next);
                Boundary.due("its job", shop.property(next, 0), job);
                next++;
            }
        }
        Boundary.due("operations", shop.count(1), 20);
    }

    private static void promise3Machines() {
        Boundary.sentence(3, "There are 4 machines, numbered from 0");
        SetupJobShop shop = new SetupJobShop();
        shop.addJob(0, 0, 0);
        for (int machine = 0; machine < 4; machine++) {
            Boundary.due("machine " + machine, shop.addOperation(0, machine, 1, 0), machine);
            Boundary.due("is its machine", shop.property(machine, 1), machine);
        }
        Boundary.sentence(3, "a sequence of at most 4 operations");
        Boundary.due("all of one job", shop.count(1), 4);
        Boundary.due("one after the other", shop.makespan(), 4);
    }

    private static void promise3NoSuchJobOrMachine() {
        Boundary.sentence(3, "Throws `IndexOutOfBoundsException` if there is no such job or machine");
        SetupJobShop empty = new SetupJobShop();
        Boundary.refused("job 0 of none", Boundary.INDEX, () -> empty.addOperation(0, 0, 1, 0));
        Boundary.refused("job 3 of three", Boundary.INDEX, Boundary::rich, shop -> shop.addOperation(3, 0, 1, 0));
        Boundary.refused("job 5", Boundary.INDEX, Boundary::full, shop -> shop.addOperation(5, 0, 1, 0));
        Boundary.refused("machine 4", Boundary.INDEX, Boundary::rich, shop -> shop.addOperation(0, 4, 1, 0));
        for (int far : Boundary.FAR) {
            Boundary.refused("job " + far, Boundary.INDEX, Boundary::rich, shop -> shop.addOperation(far, 0, 1, 0));
            Boundary.refused("machine " + far, Boundary.INDEX, Boundary::rich,
                    shop -> shop.addOperation(0, far, 1, 0));
        }
    }

    private static void promise3Ranges() {
        Boundary.sentence(3, "it has a duration from 1 to 30 and a family from 0 to 2");
        SetupJobShop shop = new SetupJobShop();
        shop.addJob(0, 0, 0);
        shop.addOperation(0, 0, 1, 0);
        shop.addOperation(0, 1, 30, 2);
        Boundary.due("duration 1", shop.property(0, 2), 1);
        Boundary.due("family 0", shop.property(0, 3), 0);
        Boundary.due("duration 30", shop.property(1, 2), 30);
        Boundary.due("family 2", shop.property(1, 3), 2);
        Boundary.sentence(3, "Throws `IllegalArgumentException` if the duration or the family is out of range");
        for (int bad : new int[] {0, 31}) {
            Boundary.refused("duration " + bad, Boundary.ARGUMENT, Boundary::rich,
                    each -> each.addOperation(0, 0, bad, 0));
        }
        Boundary.refused("family 3", Boundary.ARGUMENT, Boundary::rich, each -> each.addOperation(0, 0, 1, 3));
        for (int far : Boundary.FAR) {
            Boundary.refused("duration " + far, Boundary.ARGUMENT, Boundary::rich,
                    each -> each.addOperation(0, 0, far, 0));
            Boundary.refused("family " + far, Boundary.ARGUMENT, Boundary::rich,
                    each -> each.addOperation(0, 0, 1, far));
        }
    }

    private static void promise3FullJob() {
        Boundary.sentence(3,
                "Throws `IllegalStateException` if the job has 4 operations or has an operation on this machine");
        SetupJobShop shop = new SetupJobShop();
        shop.addJob(0, 0, 0);
        for (int machine = 3; machine >= 0; machine--) {
            int which = machine;
            shop.addOperation(0, machine, 1, 0);
            Boundary.refused("a second one on machine " + machine, Boundary.STATE,
                    () -> shop.addOperation(0, which, 1, 0));
            Boundary.due("index in the job", shop.property(3 - machine, 4), 3 - machine);
        }
        for (int machine = 0; machine < 4; machine++) {
            int which = machine;
            Boundary.refused("a fifth one", Boundary.STATE, Boundary::full, full -> full.addOperation(4, which, 1, 0));
        }
        Boundary.refused("the first one again", Boundary.STATE, Boundary::rich, rich -> rich.addOperation(0, 3, 1, 0));
        Boundary.refused("the last one again", Boundary.STATE, Boundary::rich, rich -> rich.addOperation(1, 3, 1, 0));
        Boundary.sentence(3, "a job has at most one operation on each machine");
        SetupJobShop five = Boundary.row(2, 1, 1, 1, 1);
        five.addJob(0, 0, 0);
        Boundary.due("five jobs on one machine", five.addOperation(4, 2, 1, 0), 4);
        Boundary.due("all of them", Boundary.order(five, 2), "0 1 2 3 4");
    }

    private static void promise3TheEndOfTheOrder() {
        Boundary.sentence(3, "a new operation is put at its end");
        SetupJobShop shop = Boundary.row(1, 2, 3);
        shop.swap(1, 0);
        shop.addJob(0, 0, 0);
        shop.addOperation(2, 1, 1, 0);
        Boundary.due("order", Boundary.order(shop, 1), "1 0 2");
        shop.addOperation(2, 0, 1, 0);
        Boundary.due("an empty order", Boundary.order(shop, 0), "3");
        Boundary.sentence(3, "Creates an operation as the last one of a job.");
        Boundary.due("index in its job", shop.property(3, 4), 1);
        Boundary.due("behind the one before it", shop.time(3, 0), 6);
    }

    private static void promise3WhichException() {
        Boundary.sentence(3, "the one that is listed first determines the exception.");
        Boundary.refused("job before duration", Boundary.INDEX, Boundary::rich, s -> s.addOperation(3, 0, 0, 0));
        Boundary.refused("job before family", Boundary.INDEX, Boundary::rich, s -> s.addOperation(-1, 0, 1, 3));
        Boundary.refused("machine before duration", Boundary.INDEX, Boundary::rich, s -> s.addOperation(0, 4, 31, 0));
        Boundary.refused("machine before family", Boundary.INDEX, Boundary::rich, s -> s.addOperation(0, -1, 1, -1));
        Boundary.refused("machine before full", Boundary.INDEX, Boundary::full, s -> s.addOperation(0, 4, 1, 0));
        Boundary.refused("job before full", Boundary.INDEX, Boundary::full, s -> s.addOperation(5, 4, 0, 3));
        Boundary.refused("duration before full", Boundary.ARGUMENT, Boundary::full, s -> s.addOperation(0, 0, 0, 0));
        Boundary.refused("family before full", Boundary.ARGUMENT, Boundary::full, s -> s.addOperation(0, 0, 1, 3));
        Boundary.refused("duration before the same machine", Boundary.ARGUMENT, Boundary::rich,
                s -> s.addOperation(0, 3, 31, 0));
        Boundary.refused("family before the same machine", Boundary.ARGUMENT, Boundary::rich,
                s -> s.addOperation(0, 3, 1, -1));
    }

    // Promise 4.

    private static void promise4PreviousValue() {
        Boundary.sentence(4, "Returns the previous value.");
        SetupJobShop shop = new SetupJobShop();
        shop.addJob(1, 2, 3);
        shop.addJob(4, 5, 6);
        int[] first = {1, 2, 3};
        for (int what = 0; what < 3; what++) {
            Boundary.due("as created", shop.setJob(0, what, 7), first[what]);
            Boundary.due("as set", shop.setJob(0, what, 7), 7);
            Boundary.due("the same value again", shop.setJob(0, what, 0), 7);
            Boundary.due("0", shop.setJob(0, what, 8), 0);
            Boundary.due("the other job", shop.setJob(1, what, 4 + what), 4 + what);
        }
    }

    private static void promise4NoSuchJob() {
        Boundary.sentence(4, "Throws `IndexOutOfBoundsException` if there is no such job");
        SetupJobShop empty = new SetupJobShop();
        Boundary.refused("job 0 of none", Boundary.INDEX, () -> empty.setJob(0, 0, 0));
        Boundary.due("the last job", Boundary.full().setJob(4, 0, 0), 4);
        Boundary.refused("job 5", Boundary.INDEX, Boundary::full, shop -> shop.setJob(5, 0, 0));
        Boundary.refused("job 3 of three", Boundary.INDEX, Boundary::rich, shop -> shop.setJob(3, 0, 0));
        for (int far : Boundary.FAR) {
            Boundary.refused("job " + far, Boundary.INDEX, Boundary::rich, shop -> shop.setJob(far, 0, 0));
        }
        Boundary.sentence(4, "the one that is listed first determines the exception.");
        Boundary.refused("job before what", Boundary.INDEX, Boundary::rich, shop -> shop.setJob(3, 3, 0));
        Boundary.refused("job before value", Boundary.INDEX, Boundary::rich, shop -> shop.setJob(-1, 0, -1));
    }

    private static void promise4Ranges() {
        Boundary.sentence(4, "A job has a release from 0 to 99, a due time from 0 to 200, a weight from 0 to 9");
        int[] limits = {99, 200, 9};
        for (int what = 0; what < 3; what++) {
            SetupJobShop shop = new SetupJobShop();
            shop.addJob(5, 5, 5);
            Boundary.due("the least value", shop.setJob(0, what, 0), 5);
            Boundary.due("the greatest value", shop.setJob(0, what, limits[what]), 0);
            Boundary.due("is kept", shop.setJob(0, what, 1), limits[what]);
        }
        Boundary.sentence(4, "Throws `IllegalArgumentException` if what or the value is out of range");
        for (int what = 0; what < 3; what++) {
            int which = what;
            Boundary.refused("one more for " + what, Boundary.ARGUMENT, Boundary::rich,
                    rich -> rich.setJob(2, which, limits[which] + 1));
            for (int far : Boundary.FAR) {
                Boundary.refused("value " + far + " for " + what, Boundary.ARGUMENT, Boundary::rich,
                        rich -> rich.setJob(2, which, far));
            }
        }
        Boundary.refused("what 3", Boundary.ARGUMENT, Boundary::rich, shop -> shop.setJob(0, 3, 0));
        for (int far : Boundary.FAR) {
            Boundary.refused("what " + far, Boundary.ARGUMENT, Boundary::rich, shop -> shop.setJob(0, far, 0));
            Boundary.refused("both " + far, Boundary.ARGUMENT, Boundary::rich, shop -> shop.setJob(0, far, far));
        }
    }

    private static void promise4TakesEffect() {
        Boundary.sentence(4, "0 for the release, 1 for the due time, 2 for the weight");
        SetupJobShop shop = Boundary.row(0, 10);
        shop.setJob(0, 0, 99);
        Boundary.due("release 99", shop.makespan(), 109);
        shop.setJob(0, 1, 108);
        shop.setJob(0, 2, 9);
        Boundary.due("weight 9, one late", shop.objective(1), 9);
        shop.setJob(0, 1, 109);
        Boundary.due("just in time", shop.objective(1), 0);
        shop.setJob(0, 0, 0);
        Boundary.due("release 0", shop.makespan(), 10);
    }

    // Promise 5.

    private static void promise5PreviousDuration() {
        Boundary.sentence(5, "Returns the previous duration.");
        SetupJobShop shop = Boundary.row(3, 7, 8);
        Boundary.due("as created", shop.setDuration(0, 30), 7);
        Boundary.due("the greatest", shop.setDuration(0, 30), 30);
        Boundary.due("the same", shop.setDuration(0, 1), 30);
        Boundary.due("the least", shop.setDuration(0, 2), 1);
        Boundary.due("the other operation", shop.setDuration(1, 1), 8);
        Boundary.due("both count", shop.makespan(), 3);
    }

    private static void promise5NoSuchOperation() {
        Boundary.sentence(5, "Throws `IndexOutOfBoundsException` if there is no such operation");
        SetupJobShop empty = new SetupJobShop();
        empty.addJob(0, 0, 0);
        Boundary.refused("operation 0 of none", Boundary.INDEX, () -> empty.setDuration(0, 1));
        Boundary.due("operation 19", Boundary.full().setDuration(19, 1), 8);
        Boundary.refused("operation 20", Boundary.INDEX, Boundary::full, shop -> shop.setDuration(20, 1));
        Boundary.due("operation 6", Boundary.rich().setDuration(6, 1), 2);
        Boundary.refused("operation 7 of seven", Boundary.INDEX, Boundary::rich, shop -> shop.setDuration(7, 1));
        for (int far : Boundary.FAR) {
            Boundary.refused("operation " + far, Boundary.INDEX, Boundary::rich, shop -> shop.setDuration(far, 1));
        }
        Boundary.sentence(5, "the one that is listed first determines the exception.");
        Boundary.refused("operation before duration", Boundary.INDEX, Boundary::rich, s -> s.setDuration(7, 0));
        Boundary.refused("operation before duration", Boundary.INDEX, Boundary::full, s -> s.setDuration(-1, 31));
    }

    private static void promise5Range() {
        Boundary.sentence(5, "Throws `IllegalArgumentException` if the duration is out of range");
        for (int bad : new int[] {0, 31}) {
            Boundary.refused("duration " + bad, Boundary.ARGUMENT, Boundary::rich, s -> s.setDuration(0, bad));
        }
        for (int far : Boundary.FAR) {
            Boundary.refused("duration " + far, Boundary.ARGUMENT, Boundary::rich, s -> s.setDuration(6, far));
        }
        Boundary.sentence(5, "it has a duration from 1 to 30");
        SetupJobShop shop = Boundary.row(0, 5);
        shop.setDuration(0, 1);
        Boundary.due("duration 1", shop.makespan(), 1);
        shop.setDuration(0, 30);
        Boundary.due("duration 30", shop.makespan(), 30);
    }

    // Promise 6.

    private static void promise6PreviousSetup() {
        Boundary.sentence(6, "Returns the previous setup time.");
        SetupJobShop shop = new SetupJobShop();
        for (int pair = 0; pair < 9; pair++) {
            Boundary.due("at first", shop.setSetup(pair / 3, pair % 3, pair + 1), 0);
        }
        for (int pair = 0; pair < 9; pair++) {
            Boundary.due("each pair has its own", shop.setSetup(pair / 3, pair % 3, 0), pair + 1);
        }
        Boundary.sentence(6, "the family of the later operation, possibly the same");
        SetupJobShop same = Boundary.row(0, 1, 1);
        same.setSetup(0, 0, 9);
        Boundary.due("within a family", same.makespan(), 11);
        Boundary.sentence(6, "the family of the earlier operation");
        SetupJobShop two = Boundary.shopOf("0,0,0:0.1.1;0,0,0:0.1.2");
        two.setSetup(2, 1, 9);
        Boundary.due("the other direction", two.makespan(), 2);
        two.setSetup(1, 2, 8);
        Boundary.due("this direction", two.makespan(), 10);
    }

    private static void promise6NoSuchFamily() {
        Boundary.sentence(6, "Throws `IndexOutOfBoundsException` if there is no such family");
        Boundary.refused("from 3", Boundary.INDEX, Boundary::rich, shop -> shop.setSetup(3, 0, 1));
        Boundary.refused("to 3", Boundary.INDEX, Boundary::rich, shop -> shop.setSetup(0, 3, 1));
        for (int far : Boundary.FAR) {
            Boundary.refused("from " + far, Boundary.INDEX, Boundary::rich, shop -> shop.setSetup(far, 0, 1));
            Boundary.refused("to " + far, Boundary.INDEX, Boundary::rich, shop -> shop.setSetup(2, far, 1));
        }
        Boundary.sentence(6, "the one that is listed first determines the exception.");
        Boundary.refused("from before time", Boundary.INDEX, Boundary::rich, shop -> shop.setSetup(3, 0, 10));
        Boundary.refused("to before time", Boundary.INDEX, Boundary::rich, shop -> shop.setSetup(0, -1, -1));
    }

    private static void promise6Range() {
        Boundary.sentence(6, "For each pair of families f and g there is a setup time from 0 to 9.");
        SetupJobShop shop = new SetupJobShop();
        for (int pair = 0; pair < 9; pair++) {
            Boundary.due("0", shop.setSetup(pair / 3, pair % 3, 0), 0);
            Boundary.due("9", shop.setSetup(pair / 3, pair % 3, 9), 0);
            Boundary.due("is kept", shop.setSetup(pair / 3, pair % 3, 0), 9);
        }
        Boundary.sentence(6, "Throws `IllegalArgumentException` if the setup time is out of range");
        Boundary.refused("10", Boundary.ARGUMENT, Boundary::rich, rich -> rich.setSetup(2, 2, 10));
        for (int far : Boundary.FAR) {
            Boundary.refused("time " + far, Boundary.ARGUMENT, Boundary::rich, rich -> rich.setSetup(0, 1, far));
        }
    }

    // Promise 7.

    private static void promise7Numbers() {
        Boundary.sentence(7, "A machine has at most 3 breakdowns.");
        SetupJobShop full = new SetupJobShop();
        for (int number = 0; number < 4; number++) {
            Boundary.due("breakdown " + number, Check.answerOf(() -> full.addBreakdown(1, 0, 1)),
                    number < 3 ? (Object) (number + 1) : "throws IllegalStateException");
        }
        Boundary.due("three of them", full.clearBreakdowns(1), 3);
        Boundary.sentence(7, "Returns the number of breakdowns of the machine.");
        SetupJobShop shop = new SetupJobShop();
        for (int machine = 0; machine < 4; machine++) {
            for (int number = 1; number <= 3; number++) {
                Boundary.due("number", shop.addBreakdown(machine, 5, 5), number);
            }
        }
        Boundary.sentence(7, "Breakdowns can overlap.");
        SetupJobShop overlapping = Boundary.row(1, 1);
        Boundary.due("first", overlapping.addBreakdown(1, 0, 10), 1);
        Boundary.due("the same again", overlapping.addBreakdown(1, 0, 10), 2);
        Boundary.due("behind both", overlapping.time(0, 1), 10);
        Boundary.due("over its end", overlapping.addBreakdown(1, 9, 3), 3);
        Boundary.due("behind all", overlapping.time(0, 1), 12);
        SetupJobShop inside = Boundary.row(1, 1);
        inside.addBreakdown(1, 0, 10);
        inside.addBreakdown(1, 3, 2);
        Boundary.due("one inside another", inside.time(0, 1), 10);
        SetupJobShop backwards = Boundary.row(1, 2);
        backwards.addBreakdown(1, 40, 20);
        backwards.addBreakdown(1, 21, 20);
        backwards.addBreakdown(1, 1, 20);
        Boundary.due("the latest one first", backwards.time(0, 1), 60);
    }

    private static void promise7NoSuchMachine() {
        Boundary.sentence(7, "Throws `IndexOutOfBoundsException` if there is no such machine");
        Boundary.due("machine 0", new SetupJobShop().addBreakdown(0, 0, 1), 1);
        Boundary.due("machine 3", new SetupJobShop().addBreakdown(3, 0, 1), 1);
        Boundary.refused("machine 4", Boundary.INDEX, Boundary::rich, shop -> shop.addBreakdown(4, 0, 1));
        for (int far : Boundary.FAR) {
            Boundary.refused("machine " + far, Boundary.INDEX, Boundary::rich, shop -> shop.addBreakdown(far, 0, 1));
        }
    }

    private static void promise7Ranges() {
        Boundary.sentence(7, "Throws `IllegalArgumentException` if first or length is out of range");
        SetupJobShop shop = Boundary.row(0, 1);
        Boundary.due("first 0", shop.addBreakdown(0, 0, 1), 1);
        Boundary.due("covers unit 0 alone", shop.time(0, 1), 1);
        Boundary.due("first 400", shop.addBreakdown(0, 400, 1), 2);
        Boundary.due("length 60", shop.addBreakdown(0, 1, 60), 3);
        Boundary.due("covers 1 to 60", shop.time(0, 1), 61);
        Boundary.refused("first 401", Boundary.ARGUMENT, Boundary::rich, rich -> rich.addBreakdown(0, 401, 1));
        Boundary.refused("length 0", Boundary.ARGUMENT, Boundary::rich, rich -> rich.addBreakdown(0, 0, 0));
        Boundary.refused("length 61", Boundary.ARGUMENT, Boundary::rich, rich -> rich.addBreakdown(0, 0, 61));
        for (int far : new int[] {-1, Integer.MIN_VALUE, Integer.MAX_VALUE, -256, 512, 65536}) {
            Boundary.refused("first " + far, Boundary.ARGUMENT, Boundary::rich, rich -> rich.addBreakdown(0, far, 1));
            Boundary.refused("length " + far, Boundary.ARGUMENT, Boundary::rich,
                    rich -> rich.addBreakdown(0, 0, far));
        }
    }

    private static void promise7Full() {
        Boundary.sentence(7, "Throws `IllegalStateException` if the machine has 3 breakdowns");
        SetupJobShop shop = Boundary.row(2, 1);
        shop.addBreakdown(2, 0, 1);
        shop.addBreakdown(2, 1, 1);
        Boundary.due("the third one", shop.addBreakdown(2, 2, 1), 3);
        Boundary.refused("the fourth one", Boundary.STATE, () -> shop.addBreakdown(2, 3, 1));
        Boundary.due("it counts for nothing", shop.time(0, 1), 3);
        Boundary.due("the next machine has room", shop.addBreakdown(3, 3, 1), 1);
        Boundary.due("the machine before has room", shop.addBreakdown(1, 3, 1), 1);
        Boundary.refused("the fourth one", Boundary.STATE, Boundary::rich, rich -> rich.addBreakdown(2, 0, 1));
        shop.clearBreakdowns(2);
        Boundary.due("room again", shop.addBreakdown(2, 0, 1), 1);
        Boundary.sentence(7, "A breakdown has a first time from 0 to 400 and a length from 1 to 60");
        SetupJobShop late = serial();
        Boundary.due("the last operation starts at", late.time(13, 1), 99 + 13 * 24);
        late.addBreakdown(late.property(13, 1), 400, 60);
        Boundary.due("behind the latest and longest one", late.time(13, 1), 460);
    }

    /** Fourteen operations of 24, each behind the one before it, from 99 on. */
    private static SetupJobShop serial() {
        SetupJobShop shop = new SetupJobShop();
        for (int job = 0; job < 4; job++) {
            shop.addJob(99, 0, 0);
            for (int step = 0; step < 4 && shop.count(1) < 14; step++) {
                shop.addOperation(job, job % 2 == 0 ? step : 3 - step, 24, 0);
            }
        }
        return shop;
    }

    private static void promise7WhichException() {
        Boundary.sentence(7, "the one that is listed first determines the exception.");
        Boundary.refused("machine before first", Boundary.INDEX, Boundary::rich, s -> s.addBreakdown(4, -1, 1));
        Boundary.refused("machine before length", Boundary.INDEX, Boundary::rich, s -> s.addBreakdown(-1, 0, 0));
        Boundary.refused("first before full", Boundary.ARGUMENT, Boundary::rich, s -> s.addBreakdown(2, 401, 1));
        Boundary.refused("length before full", Boundary.ARGUMENT, Boundary::rich, s -> s.addBreakdown(2, 0, 61));
    }

    // Promise 8.

    private static void promise8Removed() {
        Boundary.sentence(8, "Returns the number of breakdowns removed.");
        for (int number = 0; number <= 3; number++) {
            SetupJobShop shop = Boundary.row(2, 2);
            for (int i = 0; i < number; i++) {
                shop.addBreakdown(2, 0, 60);
            }
            Boundary.due("removed", shop.clearBreakdowns(2), number);
            Boundary.due("nothing left", shop.clearBreakdowns(2), 0);
            Boundary.due("nothing in the way", shop.time(0, 1), 0);
        }
        Boundary.sentence(8, "Removes all breakdowns of a machine.");
        SetupJobShop rich = Boundary.rich();
        int[] want = {1, 2, 3, 1};
        Boundary.due("machine 2", rich.clearBreakdowns(2), 3);
        for (int machine : new int[] {0, 1, 3}) {
            Boundary.due("the others keep theirs", rich.clearBreakdowns(machine), want[machine]);
        }
    }

    private static void promise8NoSuchMachine() {
        Boundary.sentence(8, "Throws `IndexOutOfBoundsException` if there is no such machine");
        Boundary.refused("machine 4", Boundary.INDEX, Boundary::rich, shop -> shop.clearBreakdowns(4));
        for (int far : Boundary.FAR) {
            Boundary.refused("machine " + far, Boundary.INDEX, Boundary::rich, shop -> shop.clearBreakdowns(far));
        }
    }

    // Promise 9.

    private static void promise9Counts() {
        Boundary.sentence(9, "0 for the number of jobs, 1 for the number of operations");
        SetupJobShop shop = new SetupJobShop();
        Boundary.due("no jobs", shop.count(0), 0);
        Boundary.due("no operations", shop.count(1), 0);
        shop.addJob(0, 0, 0);
        Boundary.due("one job", shop.count(0), 1);
        Boundary.due("still no operations", shop.count(1), 0);
        Boundary.due("five jobs", Boundary.full().count(0), 5);
        Boundary.due("twenty operations", Boundary.full().count(1), 20);
    }

    private static void promise9What() {
        Boundary.sentence(9, "Throws `IllegalArgumentException` if what is neither 0 nor 1");
        Boundary.refused("what 2", Boundary.ARGUMENT, Boundary::rich, shop -> shop.count(2));
        for (int far : Boundary.FAR) {
            Boundary.refused("what " + far, Boundary.ARGUMENT, Boundary::rich, shop -> shop.count(far));
        }
    }

    // Promise 10.

    private static void promise10Properties() {
        Boundary.sentence(10, "4 for its index in its job, from 0, 5 for its position in the order of its machine, "
                + "from 0");
        SetupJobShop shop = Boundary.full();
        for (int operation = 0; operation < 20; operation++) {
            int job = operation / 4;
            int machine = operation % 4;
            int[] want = {job, machine, 1 + job + machine, (job + machine) % 3, machine, job};
            for (int what = 0; what <= 5; what++) {
                Boundary.due("property " + what, shop.property(operation, what), want[what]);
            }
        }
        shop.move(16, 0);
        Boundary.due("the last one first", shop.property(16, 5), 0);
        Boundary.due("the first one second", shop.property(0, 5), 1);
        Boundary.due("the fourth one last", shop.property(12, 5), 4);
    }

    private static void promise10NoSuchOperation() {
        Boundary.sentence(10, "Throws `IndexOutOfBoundsException` if there is no such operation");
        SetupJobShop empty = new SetupJobShop();
        empty.addJob(0, 0, 0);
        Boundary.refused("operation 0 of none", Boundary.INDEX, () -> empty.property(0, 0));
        Boundary.due("operation 6 of seven", Boundary.rich().property(6, 2), 2);
        Boundary.refused("operation 7 of seven", Boundary.INDEX, Boundary::rich, shop -> shop.property(7, 0));
        Boundary.refused("operation 20", Boundary.INDEX, Boundary::full, shop -> shop.property(20, 0));
        for (int far : Boundary.FAR) {
            Boundary.refused("operation " + far, Boundary.INDEX, Boundary::full, shop -> shop.property(far, 0));
        }
        Boundary.sentence(10, "the one that is listed first determines the exception.");
        Boundary.refused("operation before what", Boundary.INDEX, Boundary::rich, shop -> shop.property(7, 6));
        Boundary.refused("operation before what", Boundary.INDEX, Boundary::rich, shop -> shop.property(-1, -1));
    }

    private static void promise10What() {
        Boundary.sentence(10, "Throws `IllegalArgumentException` if what is not from 0 to 5");
        Boundary.refused("what 6", Boundary.ARGUMENT, Boundary::rich, shop -> shop.property(0, 6));
        for (int far : Boundary.FAR) {
            Boundary.refused("what " + far, Boundary.ARGUMENT, Boundary::rich, shop -> shop.property(0, far));
        }
    }

    // Promise 11.

    private static void promise11Positions() {
        Boundary.sentence(11, "the position, from 0");
        SetupJobShop shop = Boundary.full();
        for (int machine = 0; machine < 4; machine++) {
            for (int position = 0; position < 5; position++) {
                Boundary.due("operation", shop.order(machine, position), 4 * position + machine);
            }
        }
    }

    private static void promise11NoSuchMachine() {
        Boundary.sentence(11, "Throws `IndexOutOfBoundsException` if there is no such machine");
        Boundary.refused("machine 4", Boundary.INDEX, Boundary::full, shop -> shop.order(4, 0));
        for (int far : Boundary.FAR) {
            Boundary.refused("machine " + far, Boundary.INDEX, Boundary::full, shop -> shop.order(far, 0));
        }
        Boundary.sentence(11, "the one that is listed first determines the exception.");
        Boundary.refused("machine before position", Boundary.INDEX, Boundary::full, shop -> shop.order(4, 5));
        Boundary.refused("machine before position", Boundary.INDEX, Boundary::full, shop -> shop.order(-1, -1));
    }

    private static void promise11NoSuchPosition() {
        Boundary.sentence(11, "Throws `NoSuchElementException` if there is no such position");
        Boundary.refused("position 5 of five", Boundary.ELEMENT, Boundary::full, shop -> shop.order(3, 5));
        for (int far : Boundary.FAR) {
            Boundary.refused("position " + far, Boundary.ELEMENT, Boundary::full, shop -> shop.order(0, far));
        }
        for (int size = 0; size < 5; size++) {
            SetupJobShop shop = Boundary.row(1, onesOf(size));
            int behind = size;
            Boundary.refused("behind " + size, Boundary.ELEMENT, () -> shop.order(1, behind));
            Boundary.due("the last of " + size, Check.answerOf(() -> shop.order(1, behind - 1)),
                    size == 0 ? "throws NoSuchElementException" : (Object) (size - 1));
        }
    }

    private static int[] onesOf(int size) {
        int[] ones = new int[size];
        Arrays.fill(ones, 1);
        return ones;
    }
}
