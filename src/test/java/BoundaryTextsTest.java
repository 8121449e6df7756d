import java.io.IOException;
import java.util.Arrays;
import java.util.function.Supplier;

/** Promises 32 to 38, the boundary cases: each test names its promise and its sentence. */
public final class BoundaryTextsTest {
    private static final String LEAST = "0,0,0:0.1.0";
    private static final String FULL_TEXT =
            "99,10,0:0.30.0/1.1.0;0,0,0:0.1.0/1.1.0;0,0,0:0.1.0/1.1.0;0,0,0:0.1.0;0,0,0:0.1.0";

    public static void main(String[] args) throws IOException {
        promise32NoOperations();
        promise32Heads();
        promise32GreatestSum();
        promise32NoSuchMachine();
        promise33NoOperations();
        promise33Greatest();
        promise34EightyCharacters();
        promise34AnyCharacter();
        promise35NumberOfJobs();
        promise35EndsTooEarly();
        promise35Signs();
        promise35OneDigit();
        promise35OneToThreeDigits();
        promise35EveryChangedCharacter();
        promise35HeadOutOfRange();
        promise35OperationOutOfRange();
        promise35SixthJob();
        promise35FifthOperation();
        promise35FirstCause();
        promise35FaultBeforeExecution();
        promise35BufferIsEmptied();
        promise35OneAfterTheOther();
        promise36NoFailure();
        promise36NoSuchCause();
        promise36NegativeDepth();
        promise36LatestFailure();
        promise37EveryPart();
        promise37Breakdowns();
        promise37InPlaceOfAnEarlierOne();
        promise37NotSaved();
        promise38NoSnapshot();
        promise38SnapshotIsKept();
        promise38EmptyAndFull();
        Boundary.end(32, 38);
    }

    // Promise 32.

    private static void promise32NoOperations() {
        Boundary.sentence(32, "0 if the machine has no operations");
        SetupJobShop shop = new SetupJobShop();
        shop.addJob(99, 0, 0);
        for (int machine = 0; machine < 4; machine++) {
            Boundary.due("no operations at all", shop.bound(machine), 0);
        }
        shop.addOperation(0, 2, 30, 0);
        Boundary.due("none on machine 1", shop.bound(1), 0);
        Boundary.due("one on machine 2", shop.bound(2), 129);
        Boundary.due("none on machine 3", shop.bound(3), 0);
    }

    /** Operation 0 has 6 units and the tail 1, operation 2 has 3 units, the tail 9 and this head. */
    private static void promise32Heads() {
        Boundary.sentence(32, "in each unit of time from 0 on, of the operations of the machine whose heads are not "
                + "greater than this time and which are not finished, the one with the greatest tail, of several the "
                + "one with the lowest number, is processed");
        for (int head = 0; head <= 8; head++) {
            SetupJobShop shop = Boundary.shopOf("0,0,0:0.6.0/1.1.0;" + head + ",0,0:0.3.0/2.9.0");
            Boundary.due("it is processed from its head on, " + head, shop.bound(0), head + 3 + 9);
        }
        for (int head = 0; head <= 8; head++) {
            SetupJobShop shop = Boundary.shopOf("0,0,0:0.6.0/1.9.0;" + head + ",0,0:0.3.0/2.9.0");
            Boundary.due("equal tails, head " + head, shop.bound(0), Math.max(9, head + 3) + 9);
        }
        SetupJobShop tails = Boundary.shopOf("0,0,0:0.6.0/1.9.0;2,0,0:0.3.0/2.8.0");
        Boundary.due("a tail one less does not interrupt", tails.bound(0), 17);
        Boundary.sentence(32, "let the head be the release of its job plus the durations of the earlier operations of the "
                + "job, and the tail the sum of the durations of the later ones");
        SetupJobShop alone = Boundary.shopOf("7,0,0:0.3.0");
        Boundary.due("no earlier and no later one", alone.bound(0), 10);
        SetupJobShop earlier = Boundary.shopOf("2,0,0:1.4.0/2.5.0/0.3.0");
        Boundary.due("earlier operations count for the head", earlier.bound(0), 14);
        Boundary.due("and later ones for the tail", earlier.bound(1), 14);
        SetupJobShop idle = Boundary.shopOf("0,0,0:0.1.0;99,0,0:0.30.0");
        Boundary.due("nothing to do from 1 to 99", idle.bound(0), 129);
    }

    private static void promise32GreatestSum() {
        Boundary.sentence(32, "The bound is the greatest sum of the time at which an operation is finished and its "
                + "tail");
        Boundary.due("of the first one", Boundary.shopOf("0,0,0:0.1.0/1.30.0;0,0,0:0.5.0").bound(0), 31);
        Boundary.due("of the last one", Boundary.shopOf("0,0,0:0.1.0/1.4.0;0,0,0:0.5.0").bound(0), 6);
        Boundary.due("both", Boundary.shopOf("0,0,0:0.1.0/1.5.0;0,0,0:0.5.0").bound(0), 6);
        SetupJobShop most = new SetupJobShop();
        for (int job = 0; job < 5; job++) {
            most.addJob(99, 0, 0);
            for (int machine = 0; machine < 4; machine++) {
                most.addOperation(job, machine, 30, 0);
            }
        }
        for (int machine = 0; machine < 4; machine++) {
            Boundary.due("the greatest one", most.bound(machine), 99 + 150 + 90);
        }
        for (int machine = 0; machine < 4; machine++) {
            most.addBreakdown(machine, 0, 60);
        }
        most.setSetup(0, 0, 9);
        most.move(16, 0);
        Boundary.due("no matter the breakdowns, setups and orders", most.bound(0), 339);
    }

    private static void promise32NoSuchMachine() {
        Boundary.sentence(32, "Throws `IndexOutOfBoundsException` if there is no such machine");
        Boundary.refused("machine 4", Boundary.INDEX, Boundary::rich, shop -> shop.bound(4));
        for (int far : Boundary.FAR) {
            Boundary.refused("machine " + far, Boundary.INDEX, Boundary::rich, shop -> shop.bound(far));
        }
    }

    // Promise 33.

    private static void promise33NoOperations() {
        Boundary.sentence(33, "Returns the lower bound, 0 without operations.");
        SetupJobShop shop = new SetupJobShop();
        Boundary.due("no jobs", shop.lowerBound(), 0);
        for (int job = 0; job < 5; job++) {
            shop.addJob(99, 0, 0);
        }
        Boundary.due("five jobs without operations", shop.lowerBound(), 0);
        Boundary.sentence(33, "of the release plus all durations, for all jobs that have operations");
        shop.setJob(4, 0, 0);
        shop.addOperation(4, 0, 1, 0);
        Boundary.due("the others don't count", shop.lowerBound(), 1);
        shop.addOperation(4, 1, 2, 0);
        shop.addOperation(4, 2, 3, 0);
        shop.addOperation(4, 3, 4, 0);
        Boundary.due("all durations", shop.lowerBound(), 10);
        shop.setJob(4, 0, 5);
        Boundary.due("and the release", shop.lowerBound(), 15);
    }

    private static void promise33Greatest() {
        Boundary.sentence(33, "The lower bound is the greatest one of the bounds of all machines");
        for (int machine = 0; machine < 4; machine++) {
            SetupJobShop shop = Boundary.shopOf("0,0,0:0.5.0/1.5.0/2.5.0/3.5.0");
            shop.addJob(0, 0, 0);
            shop.addOperation(1, machine, 30, 0);
            Boundary.due("that of machine " + machine, shop.lowerBound(), shop.bound(machine));
            Boundary.due("it is greater than the job", shop.lowerBound() > 20, true);
        }
    }

    // Promise 34.

    private static void promise34EightyCharacters() {
        Boundary.sentence(34, "Throws `IllegalStateException` if the buffer contains 80 characters");
        Boundary.due("length", FULL_TEXT.length(), 80);
        SetupJobShop shop = new SetupJobShop();
        Check.type(shop, FULL_TEXT);
        Boundary.refused("the 81st character", Boundary.STATE, () -> append(shop, '1'));
        Boundary.refused("once more", Boundary.STATE, () -> append(shop, ';'));
        Boundary.due("the 80 characters are read", shop.read(), 5);
        Boundary.due("all operations", shop.count(1), 8);
        SetupJobShop last = new SetupJobShop();
        Check.type(last, FULL_TEXT.substring(0, 79));
        Boundary.due("the 80th character", append(last, 'x'), "appended");
        Boundary.refused("the 81st character", Boundary.STATE, () -> append(last, '0'));
        Boundary.due("it is the 80th that counts", outcome(last, ""), "throws IllegalArgumentException 2 179");
        Check.type(last, FULL_TEXT);
        Boundary.due("80 again after a read", last.read(), 5);
        Boundary.refused("nothing else changes", Boundary.STATE, BoundaryTextsTest::brimful, each -> append(each, '0'));
    }

    private static SetupJobShop brimful() {
        SetupJobShop shop = Boundary.rich();
        for (int i = "0,9,1:0.2.0;1".length(); i < 80; i++) {
            shop.append('0');
        }
        return shop;
    }

    private static Object append(SetupJobShop shop, char c) {
        shop.append(c);
        return "appended";
    }

    private static void promise34AnyCharacter() {
        Boundary.sentence(34, "Appends a character to the text buffer.");
        char[] odd = {0, 1, '\t', '\n', ' ', 127, 128, 255, 256, '0' + 256, 0x660, 0xff10, 0xffff, 0xd800};
        for (char c : odd) {
            SetupJobShop shop = new SetupJobShop();
            Boundary.due("character " + (int) c, append(shop, c), "appended");
            Boundary.due("it begins no text", outcome(shop, ""), "throws IllegalArgumentException 2 100");
        }
    }

    // Promise 35.

    /** What read answers for a text, and the failure afterwards. */
    private static String outcome(SetupJobShop shop, String text) {
        Check.type(shop, text);
        return Check.answerOf(shop::read) + " " + Boundary.failure(shop);
    }

    private static void dueFault(String text, int position) {
        refusedRead(text, Boundary.ARGUMENT, BoundaryTextsTest::richWithoutText, "2 " + (100 + position));
    }

    private static void dueRefusal(String text, String causes) {
        refusedRead(text, Boundary.STATE, SetupJobShop::new, "3 " + causes);
    }

    private static SetupJobShop richWithoutText() {
        SetupJobShop shop = Boundary.rich();
        Check.answerOf(shop::read);
        return shop;
    }

    private static SetupJobShop fullWithoutText() {
        SetupJobShop shop = Boundary.full();
        Check.answerOf(shop::read);
        return shop;
    }

    /** A text that is refused; afterwards the buffer is empty, and all else is as if there had been no text. */
    private static void refusedRead(String text, Class<?> exception, Supplier<SetupJobShop> recipe, String codes) {
        SetupJobShop shop = recipe.get();
        Check.type(shop, text);
        Boundary.refused(text, exception, shop::read);
        Boundary.due("codes for " + text, Boundary.failure(shop), codes);
        Boundary.due("all else after " + text, Boundary.allAnswers(shop, false),
                Boundary.allAnswers(recipe.get(), false));
    }

    private static void promise35NumberOfJobs() {
        Boundary.sentence(35, "Returns the number of jobs created.");
        for (int jobs = 1; jobs <= 5; jobs++) {
            SetupJobShop shop = new SetupJobShop();
            String text = LEAST + (";" + LEAST).repeat(jobs - 1);
            Boundary.due(jobs + " jobs", outcome(shop, text), jobs + " 0");
            Boundary.due("jobs afterwards", shop.count(0), jobs);
        }
        SetupJobShop more = Boundary.row(0, 1, 1, 1);
        Boundary.due("only those of the text", outcome(more, LEAST + ";" + LEAST), "2 0");
        Boundary.due("all jobs", more.count(0), 5);
    }

    private static void promise35EndsTooEarly() {
        Boundary.sentence(35, "or the length of the text if it ends too early");
        dueFault("", 0);
        String whole = "10,200,9:3.30.2/0.1.0;0,0,0:0.10.1";
        for (int length = 1; length < whole.length(); length++) {
            if (length != 15 && length != 21) {
                dueFault(whole.substring(0, length), length);
            }
        }
        dueFault(LEAST + ";", 12);
        dueFault(LEAST + "/", 12);
        String six = LEAST + (";" + LEAST).repeat(5);
        dueFault(six + "/1.1.0/1.", 80);
        Boundary.due("its last operation may be the last of all", outcome(new SetupJobShop(), whole.substring(0, 15)),
                "1 0");
        Boundary.due("or not", outcome(new SetupJobShop(), whole.substring(0, 21)), "1 0");
    }

    private static void promise35Signs() {
        Boundary.sentence(35, "A text for reading describes one or more jobs, separated by \";\".");
        dueFault(";" + LEAST, 0);
        dueFault(LEAST + ";;" + LEAST, 12);
        dueFault(LEAST + ":" + LEAST, 11);
        Boundary.sentence(35, "A job consists of its release, its due time and its weight, separated by \",\", then "
                + "\":\", and then one or more operations, separated by \"/\".");
        dueFault("0.0,0:0.1.0", 1);
        dueFault("0,0.0:0.1.0", 3);
        dueFault("0,0:0.1.0", 3);
        dueFault("0,0,0,0:0.1.0", 5);
        dueFault("0,0,0:", 6);
        dueFault("0,0,0:;", 6);
        dueFault("0,0,0:/0.1.0", 6);
        dueFault("0,0,0:0.1.0//1.1.0", 12);
        dueFault(",0,0:0.1.0", 0);
        dueFault("0,,0:0.1.0", 2);
        dueFault("0,0,:0.1.0", 4);
        Boundary.sentence(35, "An operation consists of its machine, its duration and its family, separated by \".\".");
        dueFault("0,0,0:0,1.0", 7);
        dueFault("0,0,0:0.1,0", 9);
        dueFault("0,0,0:0.1", 9);
        dueFault("0,0,0:0..0", 8);
        dueFault("0,0,0:.1.0", 6);
        dueFault("0,0,0:0.1.", 10);
        dueFault("0,0,0:0.1./", 10);
        dueFault("0,0,0:0.1.0.0", 11);
        Boundary.sentence(35, "There are no spaces.");
        for (int at = 0; at <= LEAST.length(); at++) {
            dueFault(LEAST.substring(0, at) + " " + LEAST.substring(at), at);
        }
    }

    private static void promise35OneDigit() {
        Boundary.sentence(35, "Machine and family are one digit each");
        dueFault("0,0,0:00.1.0", 7);
        dueFault("0,0,0:10.1.0", 7);
        dueFault("0,0,0:0.1.00", 11);
        dueFault("0,0,0:0.1.10", 11);
        dueFault("0,0,0:0.1.0/00.1.0", 13);
        dueRefusal("0,0,0:9.1.0", "100 3 100");
        dueRefusal("0,0,0:0.1.9", "100 3 100");
    }

    private static void promise35OneToThreeDigits() {
        Boundary.sentence(35, "the other numbers have 1 to 3 digits and do not begin with 0, except for 0 itself");
        String[] begins = {"", "0,", "0,0,", "0,0,0:0."};
        String[] ends = {",0,0:0.1.0", ",0:0.1.0", ":0.1.0", ".0"};
        int[] limits = {99, 200, 9, 30};
        for (int i = 0; i < 4; i++) {
            int at = begins[i].length();
            String cause = i < 3 ? "100 2" : "100 3 100";
            dueFault(begins[i] + "00" + ends[i], at + 1);
            dueFault(begins[i] + "01" + ends[i], at + 1);
            dueFault(begins[i] + "000" + ends[i], at + 1);
            dueFault(begins[i] + "1000" + ends[i], at + 3);
            dueFault(begins[i] + "9999" + ends[i], at + 3);
            dueFault(begins[i] + "10 " + ends[i], at + 2);
            dueFault(begins[i] + "-1" + ends[i], at);
            dueFault(begins[i] + "+1" + ends[i], at);
            dueFault(begins[i] + ends[i], at);
            dueRefusal(begins[i] + "999" + ends[i], cause);
            dueRefusal(begins[i] + (limits[i] + 1) + ends[i], cause);
            Boundary.due("the greatest number", outcome(new SetupJobShop(), begins[i] + limits[i] + ends[i]), "1 0");
            Boundary.due("one digit", outcome(new SetupJobShop(), begins[i] + "1" + ends[i]), "1 0");
        }
        Boundary.due("10 may end with 0", outcome(new SetupJobShop(), "10,100,0:0.10.0"), "1 0");
    }

    /** Every character of a text is left out, doubled, or replaced; PlainShop finds the fault by a pattern. */
    private static void promise35EveryChangedCharacter() {
        Boundary.sentence(35, "The fault position of a text is the index of its first character that cannot continue "
                + "such a text");
        String whole = "10,200,9:3.30.2/0.1.0;0,0,0:0.10.1";
        String signs = "0123456789,.:;/ -x" + (char) 0 + (char) 255 + (char) ('0' + 256);
        for (int at = 0; at < whole.length(); at++) {
            sameAsPlain(whole.substring(0, at) + whole.substring(at + 1));
            for (int i = 0; i < signs.length(); i++) {
                sameAsPlain(whole.substring(0, at) + signs.charAt(i) + whole.substring(at + 1));
                sameAsPlain(whole.substring(0, at) + signs.charAt(i) + whole.substring(at));
            }
        }
        for (int i = 0; i < signs.length(); i++) {
            sameAsPlain(whole + signs.charAt(i));
        }
    }

    private static void sameAsPlain(String text) {
        PlainShop plain = new PlainShop();
        for (int i = 0; i < text.length(); i++) {
            plain.append(text.charAt(i));
        }
        StringBuilder want = new StringBuilder().append(Check.answerOf(plain::read)).append(' ').append(plain.failure(0));
        for (int depth = 1; plain.failure(depth) != -1; depth++) {
            want.append(' ').append(plain.failure(depth));
        }
        Boundary.due(text, outcome(new SetupJobShop(), text), want.toString());
    }

    private static void promise35HeadOutOfRange() {
        Boundary.sentence(35, "2 if its release, due time or weight is out of range");
        Boundary.due("all greatest", outcome(new SetupJobShop(), "99,200,9:0.1.0"), "1 0");
        dueRefusal("100,200,9:0.1.0", "100 2");
        dueRefusal("99,201,9:0.1.0", "100 2");
        dueRefusal("99,200,10:0.1.0", "100 2");
        dueRefusal("999,999,999:0.1.0", "100 2");
        dueRefusal(LEAST + ";0,0,10:0.1.0", "101 2");
    }

    private static void promise35OperationOutOfRange() {
        Boundary.sentence(35, "otherwise 3, because of its first operation with which this is the case; the cause of a "
                + "code 3 at this place has the code 100 plus the index of this operation in the job, from 0");
        Boundary.due("all greatest", outcome(new SetupJobShop(), "0,0,0:3.30.2"), "1 0");
        dueRefusal("0,0,0:4.1.0", "100 3 100");
        dueRefusal("0,0,0:0.0.0", "100 3 100");
        dueRefusal("0,0,0:0.31.0", "100 3 100");
        dueRefusal("0,0,0:0.1.3", "100 3 100");
        dueRefusal("0,0,0:0.1.0/1.1.3", "100 3 101");
        dueRefusal("0,0,0:0.1.0/1.1.0/2.0.0/3.0.0", "100 3 102");
        dueRefusal("0,0,0:0.1.0/1.1.0/2.1.0/9.999.9", "100 3 103");
        dueRefusal(LEAST + ";0,0,0:0.1.0/1.31.0", "101 3 101");
    }

    private static void promise35SixthJob() {
        Boundary.sentence(35, "the code 1 if the job would be the sixth one");
        String six = LEAST + (";" + LEAST).repeat(5);
        dueRefusal(six, "105 1");
        for (int jobs = 1; jobs <= 5; jobs++) {
            int before = jobs;
            String text = LEAST + (";" + LEAST).repeat(5 - jobs);
            Supplier<SetupJobShop> recipe = () -> Boundary.row(3, Arrays.copyOf(new int[] {1, 1, 1, 1, 1}, before));
            refusedRead(text, Boundary.STATE, recipe, "3 " + (105 - jobs) + " 1");
            if (jobs < 5) {
                String shorter = LEAST + (";" + LEAST).repeat(4 - jobs);
                Boundary.due("just five", outcome(recipe.get(), shorter), (5 - jobs) + " 0");
            }
        }
        refusedRead("999,0,0:9.0.9", Boundary.STATE, () -> Boundary.row(3, 1, 1, 1, 1, 1), "3 100 1");
    }

    private static void promise35FifthOperation() {
        Boundary.sentence(35, "an operation would be the fifth one of its job or the second one on its machine");
        String four = "0,0,0:0.1.0/1.1.0/2.1.0/3.1.0";
        Boundary.due("four operations", outcome(new SetupJobShop(), four), "1 0");
        for (int machine = 0; machine < 4; machine++) {
            dueRefusal(four + "/" + machine + ".1.0", "100 3 104");
        }
        dueRefusal(four + "/4.1.0", "100 3 104");
        dueRefusal(four + "/0.1.0/1.1.0/2.1.0/3.1.0/0.1.0/1.1.0/2.1.0/3.1.0", "100 3 104");
        dueRefusal("0,0,0:2.1.0/2.1.0", "100 3 101");
        dueRefusal("0,0,0:2.1.0/1.1.0/0.1.0/2.1.0", "100 3 103");
        Boundary.due("the next job may have it", outcome(new SetupJobShop(), "0,0,0:2.1.0;0,0,0:2.1.0"), "2 0");
    }

    private static void promise35FirstCause() {
        Boundary.sentence(35, "Throws `IllegalStateException` if the text cannot be executed");
        dueRefusal("100,0,0:0.0.0", "100 2");
        dueRefusal("0,0,0:0.0.0;100,0,0:0.1.0", "100 3 100");
        dueRefusal(LEAST + ";100,0,0:0.1.0;0,0,0:0.0.0", "101 2");
        refusedRead("100,0,0:0.1.0;" + LEAST, Boundary.STATE, () -> Boundary.row(3, 1, 1, 1, 1), "3 100 2");
        refusedRead(LEAST + ";100,0,0:0.1.0", Boundary.STATE, () -> Boundary.row(3, 1, 1, 1, 1), "3 101 1");
        refusedRead("0,0,0:0.1.0/0.1.0;" + LEAST, Boundary.STATE, () -> Boundary.row(3, 1, 1, 1, 1), "3 100 3 101");
        refusedRead("1,1,1:0.1.0;1,1,1:1.1.0;1,1,1:2.1.0", Boundary.STATE, BoundaryTextsTest::richWithoutText,
                "3 102 1");
    }

    private static void promise35FaultBeforeExecution() {
        Boundary.sentence(35, "Throws `IllegalArgumentException` if the text has a fault");
        dueFault("x", 0);
        Boundary.sentence(35, "Code 2: the text has a fault; its cause has the code 100 plus the fault position.");
        dueFault("1x", 1);
        dueFault(FULL_TEXT.substring(0, 79) + "x", 79);
        Boundary.sentence(35, "the one that is listed first determines the exception.");
        dueFault("100,0,0:0.1.0;", 14);
        dueFault("0,0,0:9.0.9/", 12);
        dueFault(LEAST + (";" + LEAST).repeat(5) + ";", 72);
        refusedRead("100,0,0:0.1.0x", Boundary.ARGUMENT, BoundaryTextsTest::fullWithoutText, "2 113");
    }

    private static void promise35BufferIsEmptied() {
        Boundary.sentence(35, "The buffer is emptied, also if an exception is thrown; then no job is created.");
        SetupJobShop shop = new SetupJobShop();
        Boundary.due("a good text", outcome(shop, LEAST), "1 0");
        Boundary.due("nothing is left", outcome(shop, ""), "throws IllegalArgumentException 2 100");
        Boundary.due("a fault", outcome(shop, LEAST + ";0,x"), "throws IllegalArgumentException 2 114");
        Boundary.due("nothing is left", outcome(shop, LEAST), "1 2 114");
        Boundary.due("not executable", outcome(shop, LEAST + ";0,0,0:1.1.0/1.1.0"),
                "throws IllegalStateException 3 101 3 101");
        Boundary.due("no job of it", shop.count(0), 2);
        Boundary.due("no operation of it", shop.count(1), 2);
        Boundary.due("no operation in an order", Boundary.order(shop, 0), "0 1");
        Boundary.due("nothing is left", outcome(shop, LEAST), "1 3 101 3 101");
        Boundary.due("the numbers go on", shop.property(2, 0), 2);
    }

    private static void promise35OneAfterTheOther() {
        Boundary.sentence(35, "Reads the text buffer and creates the jobs described.");
        SetupJobShop shop = Boundary.row(1, 5, 5);
        shop.swap(1, 0);
        Boundary.due("jobs", outcome(shop, "99,200,9:1.30.2/0.1.0;7,8,0:0.2.1/1.3.1"), "2 0");
        Boundary.due("at the ends of the orders", Boundary.order(shop, 1), "1 0 2 5");
        Boundary.due("machine 0", Boundary.order(shop, 0), "3 4");
        Boundary.due("release", shop.setJob(2, 0, 0), 99);
        Boundary.due("due time", shop.setJob(2, 1, 0), 200);
        Boundary.due("weight", shop.setJob(2, 2, 0), 9);
        Boundary.due("duration", shop.property(2, 2), 30);
        Boundary.due("family", shop.property(2, 3), 2);
        Boundary.due("index in the job", shop.property(5, 4), 1);
    }

    // Promise 36.

    private static void promise36NoFailure() {
        Boundary.sentence(36, "0 if depth is 0 and there was no failure");
        SetupJobShop shop = Boundary.crossing();
        Boundary.due("none", shop.failure(0), 0);
        Boundary.due("no cause", shop.failure(1), -1);
        Boundary.due("far", shop.failure(Integer.MAX_VALUE), -1);
        Check.answerOf(() -> shop.addJob(-1, 0, 0));
        Check.answerOf(() -> shop.swap(0, 1));
        Check.answerOf(() -> shop.swap(4, 0));
        Check.answerOf(() -> shop.move(0, 2));
        Check.answerOf(() -> shop.move(4, 0));
        Check.answerOf(() -> restore(shop));
        Boundary.due("other exceptions are no failures", shop.failure(0), 0);
    }

    private static void promise36NoSuchCause() {
        Boundary.sentence(36, "-1 if there is no such cause");
        SetupJobShop shop = Boundary.crossing();
        Check.answerOf(() -> shop.swap(0, 0));
        dueCodes(shop, 1, 100, 4);
        outcome(shop, "x");
        dueCodes(shop, 2, 100);
        outcome(shop, "100,0,0:0.1.0");
        dueCodes(shop, 3, 100, 2);
        outcome(shop, "0,0,0:0.1.0/0.1.0");
        dueCodes(shop, 3, 100, 3, 101);
        outcome(shop, LEAST + (";" + LEAST).repeat(3));
        dueCodes(shop, 3, 103, 1);
        outcome(shop, "");
        dueCodes(shop, 2, 100);
    }

    private static void dueCodes(SetupJobShop shop, int... codes) {
        for (int depth = 0; depth < codes.length; depth++) {
            Boundary.due("depth " + depth, shop.failure(depth), codes[depth]);
        }
        for (int depth : new int[] {codes.length, codes.length + 1, 5, 256, 65536, Integer.MAX_VALUE}) {
            Boundary.due("depth " + depth, shop.failure(depth), -1);
        }
    }

    private static void promise36NegativeDepth() {
        Boundary.sentence(36, "Throws `IllegalArgumentException` if depth is negative");
        for (int depth : new int[] {-1, -2, -4, -256, -65536, Integer.MIN_VALUE}) {
            Boundary.refused("depth " + depth, Boundary.ARGUMENT, Boundary::rich, shop -> shop.failure(depth));
            Boundary.refused("no failure, depth " + depth, Boundary.ARGUMENT, Boundary::full,
                    shop -> shop.failure(depth));
        }
    }

    private static void promise36LatestFailure() {
        Boundary.sentence(36, "The latest failure is kept until the next one, whatever other calls there are; it does "
                + "not belong to the state that a call leaves unchanged.");
        SetupJobShop shop = Boundary.crossing();
        shop.save();
        Check.answerOf(() -> shop.move(0, 1));
        shop.restore();
        shop.dispatch(0);
        shop.shiftBottlenecks();
        shop.tabu(5, 5);
        shop.clearBreakdowns(0);
        Boundary.due("a good text", outcome(shop, LEAST), "1 1 100 4");
        shop.save();
        Check.answerOf(() -> shop.failure(-1));
        shop.append('x');
        Boundary.due("still", Boundary.failure(shop), "1 100 4");
        Boundary.due("the next one", outcome(shop, ""), "throws IllegalArgumentException 2 100");
        shop.restore();
        Boundary.due("it is not restored", Boundary.failure(shop), "2 100");
    }

    // Promise 37.

    private static void promise37EveryPart() {
        Boundary.sentence(37, "Saves the jobs, the operations, the setup times, the breakdowns and the orders");
        int changes = 11;
        for (int change = 0; change < changes; change++) {
            SetupJobShop shop = Boundary.rich();
            shop.save();
            String different = Boundary.allAnswers(changed(change), true);
            String before = Boundary.allAnswers(Boundary.rich(), true);
            Boundary.due("change " + change + " shows", different.equals(before), false);
            change(shop, change);
            shop.restore();
            Boundary.due("change " + change + " is taken back", Boundary.allAnswers(shop, true), before);
        }
    }

    private static void promise37Breakdowns() {
        Boundary.sentence(37, "the breakdowns");
        int[][] others = {{0, 1}, {0, 60}, {400, 60}, {8, 1}};
        for (int[] other : others) {
            SetupJobShop shop = Boundary.row(0, 3, 4);
            shop.addBreakdown(0, 6, 2);
            shop.save();
            shop.clearBreakdowns(0);
            shop.addBreakdown(0, other[0], other[1]);
            shop.addBreakdown(0, 0, 5);
            shop.restore();
            Boundary.due("before it", shop.time(0, 1), 0);
            Boundary.due("behind it", shop.time(1, 1), 8);
            Boundary.due("how many", shop.clearBreakdowns(0), 1);
        }
    }

    private static SetupJobShop changed(int change) {
        SetupJobShop shop = Boundary.rich();
        change(shop, change);
        return shop;
    }

    private static void change(SetupJobShop shop, int change) {
        switch (change) {
            case 0, 1, 2 -> shop.setJob(2, change, 7);
            case 3 -> shop.addJob(1, 1, 1);
            case 4 -> shop.addOperation(2, 0, 1, 1);
            case 5 -> shop.setDuration(6, 9);
            case 6 -> shop.setSetup(2, 2, 1);
            case 7 -> shop.addBreakdown(3, 60, 1);
            case 8 -> shop.clearBreakdowns(2);
            case 9 -> {
                shop.clearBreakdowns(0);
                shop.addBreakdown(0, 0, 60);
            }
            default -> shop.swap(3, 0);
        }
    }

    private static void promise37InPlaceOfAnEarlierOne() {
        Boundary.sentence(37, "in place of an earlier snapshot");
        SetupJobShop shop = Boundary.full();
        shop.save();
        shop.setJob(0, 0, 77);
        shop.save();
        shop.setJob(0, 0, 88);
        shop.restore();
        Boundary.due("the later one", shop.setJob(0, 0, 0), 77);
        SetupJobShop fewer = new SetupJobShop();
        fewer.save();
        Check.type(fewer, FULL_TEXT);
        fewer.read();
        fewer.save();
        fewer.restore();
        Boundary.due("a fuller one", fewer.count(1), 8);
        SetupJobShop emptier = new SetupJobShop();
        emptier.save();
        Check.type(emptier, FULL_TEXT);
        emptier.read();
        emptier.restore();
        emptier.save();
        emptier.restore();
        Boundary.due("an emptier one", emptier.count(0), 0);
    }

    private static void promise37NotSaved() {
        Boundary.sentence(37, "Saves the jobs, the operations, the setup times, the breakdowns and the orders");
        SetupJobShop shop = Boundary.crossing();
        shop.tabu(2, 0);
        shop.save();
        Check.type(shop, LEAST);
        shop.tabu(1, 0);
        shop.shiftBottlenecks();
        Check.answerOf(() -> shop.move(1, 0));
        String failure = Boundary.failure(shop);
        shop.restore();
        Boundary.due("the failure is no part of it", Boundary.failure(shop), failure);
        Boundary.due("nor the steps", shop.tabuSteps(), 1);
        Boundary.due("nor the bottlenecks", shop.bottleneck(0), 1);
        Boundary.due("nor the text", shop.read(), 1);
    }

    // Promise 38.

    private static void promise38NoSnapshot() {
        Boundary.sentence(38, "Throws `IllegalStateException` if there is no snapshot");
        Boundary.refused("a new object", Boundary.STATE, SetupJobShop::new, BoundaryTextsTest::restore);
        Boundary.refused("a used object", Boundary.STATE, Boundary::crossing, BoundaryTextsTest::restore);
        SetupJobShop shop = new SetupJobShop();
        Boundary.refused("before", Boundary.STATE, () -> restore(shop));
        shop.save();
        Boundary.due("a snapshot of nothing is one", restore(shop), "restored");
    }

    private static Object restore(SetupJobShop shop) {
        shop.restore();
        return "restored";
    }

    private static void promise38SnapshotIsKept() {
        Boundary.sentence(38, "Restores what was saved; the snapshot is kept.");
        String want = Boundary.allAnswers(Boundary.rich(), true);
        SetupJobShop shop = Boundary.rich();
        shop.save();
        for (int change = 0; change < 11; change++) {
            change(shop, change);
            shop.restore();
        }
        shop.restore();
        Boundary.due("after many changes", Boundary.allAnswers(shop, true), want);
    }

    private static void promise38EmptyAndFull() {
        Boundary.sentence(38, "Restores what was saved");
        SetupJobShop shop = new SetupJobShop();
        shop.save();
        Check.type(shop, FULL_TEXT);
        shop.read();
        for (int machine = 0; machine < 4; machine++) {
            shop.addBreakdown(machine, 0, 1);
        }
        shop.setSetup(1, 1, 1);
        shop.restore();
        Boundary.due("empty again", Boundary.allAnswers(shop, true), Boundary.allAnswers(new SetupJobShop(), true));
        SetupJobShop full = Boundary.full();
        full.save();
        full.dispatch(1);
        full.restore();
        Boundary.due("full again", Boundary.allAnswers(full, true), Boundary.allAnswers(Boundary.full(), true));
        SetupJobShop room = new SetupJobShop();
        room.save();
        for (int turn = 0; turn < 3; turn++) {
            Boundary.due("five jobs each time", outcome(room, FULL_TEXT), "5 0");
            room.restore();
        }
    }
}
