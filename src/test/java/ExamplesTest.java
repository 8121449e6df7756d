import java.util.NoSuchElementException;

/** The four examples of the document's section "Description". */
public final class ExamplesTest {
    public static void main(String[] args) {
        jobsWithSetups();
        movesFailureAndSearches();
        breakdown();
        exceptions();
        Check.end();
    }

    private static SetupJobShop twoJobs() {
        SetupJobShop shop = new SetupJobShop();
        Check.due("addJob", shop.addJob(0, 20, 2), 0);
        Check.due("addOperation", shop.addOperation(0, 0, 5, 0), 0);
        Check.due("addOperation", shop.addOperation(0, 1, 4, 1), 1);
        Check.due("addJob", shop.addJob(0, 12, 1), 1);
        Check.due("addOperation", shop.addOperation(1, 1, 6, 0), 2);
        Check.due("addOperation", shop.addOperation(1, 0, 3, 2), 3);
        return shop;
    }

    private static void jobsWithSetups() {
        SetupJobShop shop = twoJobs();
        Check.due("setSetup", shop.setSetup(0, 2, 2), 0);
        Check.due("makespan", shop.makespan(), 18);
        Check.due("time", shop.time(2, 1), 9);
        Check.due("pathLength", shop.pathLength(), 4);
        Check.due("path", shop.path(0), 0);
        Check.due("swap", shop.swap(1, 0), 10);
        Check.due("makespan", shop.makespan(), 10);
        Check.due("slack", shop.slack(1), 0);
        Check.due("objective", shop.objective(3), 2);
        Check.due("lowerBound", shop.lowerBound(), 10);
    }

    private static void movesFailureAndSearches() {
        SetupJobShop shop = twoJobs();
        Check.due("swap", shop.swap(1, 0), 10);
        Check.due("swap", shop.swap(0, 0), 18);
        Check.refused("move", IllegalStateException.class, () -> shop.move(1, 0));
        Check.due("failure", shop.failure(0), 1);
        Check.due("failure", shop.failure(1), 100);
        Check.due("failure", shop.failure(2), 4);
        Check.due("tabu", shop.tabu(5, 2), 10);
        Check.due("tabuSteps", shop.tabuSteps(), 2);
        Check.due("shiftBottlenecks", shop.shiftBottlenecks(), 10);
        Check.due("bottleneck", shop.bottleneck(0), 1);
    }

    private static void breakdown() {
        SetupJobShop shop = new SetupJobShop();
        Check.due("addJob", shop.addJob(3, 20, 2), 0);
        Check.due("addOperation", shop.addOperation(0, 2, 5, 0), 0);
        Check.due("addBreakdown", shop.addBreakdown(2, 4, 3), 1);
        Check.due("time", shop.time(0, 0), 3);
        Check.due("time", shop.time(0, 1), 7);
        Check.due("objective", shop.objective(4), 4);
        Check.due("repair", shop.repair(5, 3), 12);
        Check.due("bound", shop.bound(2), 8);
        Check.due("clearBreakdowns", shop.clearBreakdowns(2), 1);
        Check.due("makespan", shop.makespan(), 8);
    }

    private static void exceptions() {
        SetupJobShop shop = new SetupJobShop();
        Check.refused("read", IllegalArgumentException.class, () -> shop.read());
        Check.due("failure", shop.failure(0), 2);
        Check.due("failure", shop.failure(1), 100);
        Check.due("failure", shop.failure(2), -1);
        Check.refused("order", NoSuchElementException.class, () -> shop.order(0, 0));
        Check.refused("bottleneck", NoSuchElementException.class, () -> shop.bottleneck(0));
        Check.refused("dispatch", IllegalArgumentException.class, () -> shop.dispatch(4));
    }
}
