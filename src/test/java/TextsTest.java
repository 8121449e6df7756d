import java.util.NoSuchElementException;

/** Promises 32 to 38: bounds, texts, failures and the snapshot. */
public final class TextsTest {
    public static void main(String[] args) {
        promise32Bound();
        promise32Preemption();
        promise33LowerBound();
        promise34Append();
        promise35Read();
        promise35Faults();
        promise35NotExecutable();
        promise35EmptiesTheBuffer();
        promise36Failure();
        promise36KeepsTheLatest();
        promise37Save();
        promise38Restore();
        Check.end();
    }

    private static SetupJobShop shopOf(String text) {
        SetupJobShop shop = new SetupJobShop();
        Check.type(shop, text);
        shop.read();
        return shop;
    }

    private static void promise32Bound() {
        SetupJobShop shop = new SetupJobShop();
        Check.due("no operations", shop.bound(0), 0);
        Check.refused("machine 4", IndexOutOfBoundsException.class, () -> shop.bound(4));
        Check.refused("machine -1", IndexOutOfBoundsException.class, () -> shop.bound(-1));
        SetupJobShop three = shopOf("4,0,0:0.3.0/1.2.0/2.6.0;1,0,0:1.5.0/3.1.0");
        Check.due("machine 0", three.bound(0), 15);
        Check.due("machine 1", three.bound(1), 15);
        Check.due("machine 3", three.bound(3), 7);
        three.setSetup(0, 0, 9);
        three.addBreakdown(1, 0, 60);
        three.swap(1, 0);
        Check.due("setups, breakdowns and orders don't count", three.bound(1), 15);
        SetupJobShop greatest = new SetupJobShop();
        for (int job = 0; job < 5; job++) {
            greatest.addJob(99, 0, 0);
            for (int machine = 0; machine < 4; machine++) {
                greatest.addOperation(job, machine, 30, 0);
            }
        }
        Check.due("greatest of the last machine", greatest.bound(3), 99 + 90 + 150);
        Check.due("greatest of the first machine", greatest.bound(0), 99 + 150 + 90);
    }

    /** In the first text operation 0 is interrupted at 2; without interruption the bound would be 9 + 9. */
    private static void promise32Preemption() {
        Check.due("interrupted", shopOf("0,0,0:0.6.0/1.1.0;2,0,0:0.3.0/2.9.0").bound(0), 14);
        Check.due("not interrupted", shopOf("0,0,0:0.6.0/1.9.0;2,0,0:0.3.0/2.1.0").bound(0), 15);
        Check.due("the least tail last", shopOf("0,0,0:0.6.0;0,0,0:0.3.0/2.9.0;0,0,0:0.4.0/2.5.0").bound(0), 13);
        Check.due("a pause", shopOf("0,0,0:0.1.0;50,0,0:0.3.0").bound(0), 53);
    }

    private static void promise33LowerBound() {
        SetupJobShop shop = new SetupJobShop();
        Check.due("no jobs", shop.lowerBound(), 0);
        shop.addJob(99, 0, 0);
        Check.due("no operations", shop.lowerBound(), 0);
        shop.addJob(5, 0, 0);
        shop.addOperation(1, 0, 4, 0);
        Check.due("one operation", shop.lowerBound(), 9);
        shop.addOperation(1, 1, 8, 0);
        Check.due("the job", shop.lowerBound(), 17);
        shop.addJob(0, 0, 0);
        shop.addOperation(2, 1, 20, 0);
        Check.due("machine 1", shop.lowerBound(), 28);
        Check.due("as its bound", shop.bound(1), 28);
        Check.due("not machine 0", shop.bound(0), 17);
        shop.setJob(0, 0, 0);
        shop.addOperation(0, 3, 30, 0);
        Check.due("machine 3", shop.lowerBound(), 30);
    }

    private static void promise34Append() {
        SetupJobShop shop = new SetupJobShop();
        for (int i = 0; i < 80; i++) {
            shop.append(i < 40 ? '1' : (char) (200 + 100 * i));
        }
        Check.refusedAction("81st character", IllegalStateException.class, () -> shop.append('1'));
        Check.refusedAction("and again", IllegalStateException.class, () -> shop.append('1'));
        Check.refused("read", IllegalArgumentException.class, () -> shop.read());
        Check.due("fault", shop.failure(1), 103);
        Check.type(shop, "0,0,0:0.1.0");
        Check.due("room again", shop.read(), 1);
    }

    private static void promise35Read() {
        SetupJobShop shop = new SetupJobShop();
        Check.type(shop, "99,200,9:3.30.2/0.1.0;0,0,0:0.10.1");
        Check.due("jobs created", shop.read(), 2);
        Check.due("jobs", shop.count(0), 2);
        int[][] want = {{0, 3, 30, 2, 0, 0}, {0, 0, 1, 0, 1, 0}, {1, 0, 10, 1, 0, 1}};
        for (int operation = 0; operation < 3; operation++) {
            for (int what = 0; what <= 5; what++) {
                Check.due("property " + what, shop.property(operation, what), want[operation][what]);
            }
        }
        Check.due("release", shop.setJob(0, 0, 0), 99);
        Check.due("due", shop.setJob(0, 1, 0), 200);
        Check.due("weight", shop.setJob(0, 2, 0), 9);
        Check.type(shop, "7,8,9:1.2.0;1,1,1:1.1.1;2,2,2:2.2.2");
        Check.due("three more jobs", shop.read(), 3);
        Check.due("numbered on", shop.order(1, 0), 3);
        Check.due("all jobs", shop.count(0), 5);
        Check.due("no failure", shop.failure(0), 0);
    }

    private static void dueFault(String text, int position) {
        SetupJobShop shop = new SetupJobShop();
        Check.type(shop, text);
        Check.refused("read " + text, IllegalArgumentException.class, () -> shop.read());
        dueFailure(shop, text, 2, 100 + position);
        Check.due("no job of " + text, shop.count(0), 0);
    }

    private static void dueFailure(SetupJobShop shop, String text, int... codes) {
        for (int depth = 0; depth < codes.length; depth++) {
            Check.due("failure " + depth + " of " + text, shop.failure(depth), codes[depth]);
        }
        Check.due("no more causes for " + text, shop.failure(codes.length), -1);
        Check.due("nor any far away", shop.failure(Integer.MAX_VALUE), -1);
    }

    private static void promise35Faults() {
        String whole = "10,200,9:3.30.2/0.1.0;0,0,0:0.10.1";
        for (int length = 0; length < whole.length(); length++) {
            if (length != 15 && length != 21) {
                dueFault(whole.substring(0, length), length);
            }
            dueFault(whole.substring(0, length) + " ", length);
            dueFault(whole.substring(0, length) + (char) 0, length);
            dueFault(whole.substring(0, length) + (char) ('0' + 256), length);
        }
        String[] texts = {",", "00", "01,0,0:0.1.0", "1000", "999,1234", "0,0,00", "0,0,0;", "0,0,0:00", "0,0,0:1,",
            "0,0,0:1.01", "0,0,0:1.1000", "0,0,0:1.1.00", "0,0,0:1.1.0.", "0,0,0:1.1.0,", "0,0,0:1.1.0//",
            "0,0,0:1.1.0;;", "0,0,0:1.1.0;1.", "0,0,0:/", "-1", "0.", "0:", "0,0:", "0,0,0:10", "a", "0,0,0:1..0",
            "0,,", "0,0,0:1.1.0/0;"};
        int[] positions = {0, 1, 1, 3, 7, 5, 5, 7, 7, 9, 11, 11, 11, 11, 12, 12, 13, 6, 0, 1, 1, 3, 7, 0, 8, 2, 13};
        for (int i = 0; i < texts.length; i++) {
            dueFault(texts[i], positions[i]);
        }
        dueFault("999,999,999:9.999.9;", 20);
        dueFault("999,999,999:9.999.9;x", 20);
    }

    private static void dueRefusal(SetupJobShop shop, String text, int... causes) {
        String before = Check.stateOf(shop);
        Check.type(shop, text);
        Check.refused("read " + text, IllegalStateException.class, () -> shop.read());
        int[] codes = new int[causes.length + 1];
        codes[0] = 3;
        System.arraycopy(causes, 0, codes, 1, causes.length);
        dueFailure(shop, text, codes);
        Check.due("nothing created by " + text, Check.stateOf(shop), before);
    }

    private static void promise35NotExecutable() {
        SetupJobShop shop = new SetupJobShop();
        dueRefusal(shop, "100,0,0:0.1.0", 100, 2);
        dueRefusal(shop, "0,201,0:0.1.0", 100, 2);
        dueRefusal(shop, "0,0,10:0.1.0", 100, 2);
        dueRefusal(shop, "0,0,0:4.1.0", 100, 3, 100);
        dueRefusal(shop, "0,0,0:0.0.0", 100, 3, 100);
        dueRefusal(shop, "0,0,0:0.31.0", 100, 3, 100);
        dueRefusal(shop, "0,0,0:0.1.3", 100, 3, 100);
        dueRefusal(shop, "0,0,0:0.1.0/1.1.0/0.1.0", 100, 3, 102);
        dueRefusal(shop, "0,0,0:0.1.0/1.1.0/2.1.0/3.1.0/0.1.0", 100, 3, 104);
        dueRefusal(shop, "0,0,0:0.1.0/1.1.0/2.1.0/3.1.0/9.1.0/0.0.0", 100, 3, 104);
        dueRefusal(shop, "0,0,0:0.1.0;0,0,10:9.1.0", 101, 2);
        dueRefusal(shop, "0,0,0:0.1.0;0,0,0:1.1.0/1.1.0;0,0,10:9.1.0", 101, 3, 101);
        dueRefusal(shop, "0,0,0:0.1.0;0,0,0:1.1.0;0,0,0:1.1.0;0,0,0:1.1.0;0,0,0:1.1.0;0,0,0:1.1.0", 105, 1);
        dueRefusal(shop, "0,0,0:0.1.0;0,0,0:1.1.0;0,0,0:1.1.0;0,0,0:1.1.0;0,0,0:1.0.0;0,0,0:1.1.0", 104, 3, 100);
        for (int job = 0; job < 4; job++) {
            shop.addJob(1, 1, 1);
        }
        dueRefusal(shop, "0,0,0:0.1.0;999,0,0:0.0.0", 101, 1);
        dueRefusal(shop, "0,0,99:0.1.0;999,0,0:0.0.0", 100, 2);
        shop.addJob(1, 1, 1);
        dueRefusal(shop, "0,0,0:0.1.0", 100, 1);
    }

    private static void promise35EmptiesTheBuffer() {
        SetupJobShop shop = new SetupJobShop();
        Check.type(shop, "0,0,0:0.1.0");
        Check.due("read", shop.read(), 1);
        Check.refused("empty now", IllegalArgumentException.class, () -> shop.read());
        Check.due("fault at 0", shop.failure(1), 100);
        Check.type(shop, "12x");
        Check.refused("fault", IllegalArgumentException.class, () -> shop.read());
        Check.due("fault at 2", shop.failure(1), 102);
        Check.refused("empty now", IllegalArgumentException.class, () -> shop.read());
        Check.due("fault at 0", shop.failure(1), 100);
        Check.type(shop, "0,0,0:9.1.0");
        Check.refused("machine 9", IllegalStateException.class, () -> shop.read());
        Check.refused("empty now", IllegalArgumentException.class, () -> shop.read());
        Check.due("fault at 0", shop.failure(1), 100);
        Check.type(shop, "0,0,0:0.1.0");
        shop.save();
        shop.restore();
        Check.due("a snapshot doesn't touch the buffer", shop.read(), 1);
    }

    private static void promise36Failure() {
        SetupJobShop shop = new SetupJobShop();
        Check.due("none", shop.failure(0), 0);
        Check.due("no cause", shop.failure(1), -1);
        Check.due("no far cause", shop.failure(Integer.MAX_VALUE), -1);
        Check.refused("depth -1", IllegalArgumentException.class, () -> shop.failure(-1));
        Check.refused("far depth", IllegalArgumentException.class, () -> shop.failure(Integer.MIN_VALUE));
    }

    /** A shorter failure leaves no cause of a longer one behind, and other refused calls are no failures. */
    private static void promise36KeepsTheLatest() {
        SetupJobShop shop = shopOf("0,20,2:0.5.0/1.4.1;0,12,1:1.6.0/0.3.2");
        shop.save();
        dueRefusal(shop, "0,0,0:2.1.0/2.1.0", 100, 3, 101);
        Check.refused("swap", IllegalStateException.class, () -> shop.swap(0, 0));
        dueFailure(shop, "a cycle", 1, 100, 4);
        shop.swap(1, 0);
        shop.restore();
        shop.dispatch(0);
        Check.refused("addJob", IllegalArgumentException.class, () -> shop.addJob(-1, 0, 0));
        Check.refused("order", NoSuchElementException.class, () -> shop.order(0, 9));
        dueFailure(shop, "still a cycle", 1, 100, 4);
        Check.refused("read", IllegalArgumentException.class, () -> shop.read());
        dueFailure(shop, "a fault", 2, 100);
    }

    private static SetupJobShop rich() {
        SetupJobShop shop = shopOf("0,20,2:0.5.0/1.4.1;0,12,1:1.6.0/0.3.2");
        shop.setSetup(0, 2, 2);
        shop.addBreakdown(1, 3, 2);
        shop.swap(1, 0);
        return shop;
    }

    private static void spoil(SetupJobShop shop) {
        shop.setJob(0, 0, 9);
        shop.setJob(0, 1, 1);
        shop.setJob(1, 2, 8);
        shop.setDuration(1, 30);
        shop.setSetup(0, 2, 9);
        shop.addBreakdown(1, 0, 50);
        shop.addBreakdown(3, 0, 50);
        shop.addJob(5, 5, 5);
        shop.addOperation(2, 0, 7, 1);
        shop.addOperation(1, 2, 7, 1);
        shop.addOperation(0, 2, 7, 1);
        shop.move(4, 0);
    }

    private static void promise37Save() {
        SetupJobShop shop = rich();
        String first = Check.stateOf(shop);
        shop.save();
        Check.due("nothing changes", Check.stateOf(shop), first);
        spoil(shop);
        String second = Check.stateOf(shop);
        Check.due("another state", first.equals(second), false);
        shop.save();
        shop.dispatch(0);
        shop.clearBreakdowns(1);
        shop.restore();
        Check.due("in place of the earlier snapshot", Check.stateOf(shop), second);
        SetupJobShop other = new SetupJobShop();
        other.save();
        other.addJob(0, 0, 0);
        other.restore();
        Check.due("an empty shop can be saved", other.count(0), 0);
    }

    private static void promise38Restore() {
        SetupJobShop shop = rich();
        Check.refusedAction("no snapshot", IllegalStateException.class, () -> shop.restore());
        String state = Check.stateOf(shop);
        shop.save();
        for (int turn = 0; turn < 3; turn++) {
            spoil(shop);
            shop.restore();
            Check.due("the snapshot is kept", Check.stateOf(shop), state);
        }
        Check.due("jobs", shop.count(0), 2);
        Check.due("operations", shop.count(1), 4);
        Check.due("setup", shop.setSetup(0, 2, 0), 2);
        Check.due("due time", shop.setJob(0, 1, 0), 20);
        Check.due("weight", shop.setJob(1, 2, 0), 1);
        Check.due("breakdowns of machine 1", shop.clearBreakdowns(1), 1);
        Check.due("breakdowns of machine 3", shop.clearBreakdowns(3), 0);
        Check.due("the next operation", shop.addOperation(0, 3, 1, 0), 4);
        shop.clearBreakdowns(1);
        shop.addBreakdown(1, 20, 9);
        shop.restore();
        Check.due("an exchanged breakdown", Check.stateOf(shop), state);
        shop.shiftBottlenecks();
        int bottleneck = shop.bottleneck(3);
        shop.restore();
        Check.due("the bottlenecks are not part of it", shop.bottleneck(3), bottleneck);
    }
}
