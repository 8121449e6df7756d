import java.util.NoSuchElementException;

/**
 * A job shop scheduler with sequence-dependent setup times and machine breakdowns.
 *
 * All rows are made once, with the object: no call but the constructor makes an array.
 */
public final class SetupJobShop {
    private static final int NONE = -1;

    private static final int MACHINES = 4;
    private static final int FAMILIES = 3;
    private static final int JOBS = 5;
    private static final int STEPS = 4;
    private static final int OPERATIONS = 20;
    private static final int BREAKDOWNS = 3;

    private static final int RELEASE = 0;
    private static final int DUE = 1;
    private static final int WEIGHT = 2;
    private static final int MACHINE = 3;
    private static final int DURATION = 4;
    private static final int FAMILY = 5;

    /** The greatest release, due time and weight. */
    private static final int[] JOB_LIMITS = {99, 200, 9};
    private static final int DURATION_LIMIT = 30;
    private static final int SETUP_LIMIT = 9;
    private static final int FIRST_LIMIT = 400;
    private static final int LENGTH_LIMIT = 60;
    private static final int SLACK_LIMIT = 60;
    private static final int REPAIR_LIMIT = 999;
    private static final int RULE_LIMIT = 3;
    private static final int STEP_LIMIT = 20;
    private static final int TENURE_LIMIT = 9;
    private static final int TEXT_LIMIT = 80;

    private static final int SHORTEST_FIRST = 0;
    private static final int MOST_WORK_FIRST = 1;
    private static final int DUE_FIRST = 2;

    /** As many as a machine with five operations has. */
    private static final int PERMUTATIONS = 120;
    /** Heads end before 200 and a machine has at most 150 units of work, so no bound needs more units. */
    private static final int HORIZON = 1000;

    private static final int CYCLE = 1;
    private static final int FAULT = 2;
    private static final int NOT_EXECUTABLE = 3;
    private static final int SIXTH_JOB = 1;
    private static final int BAD_JOB = 2;
    private static final int BAD_OPERATION = 3;
    /** Numbers of operations, positions and indices stand in failures with this added. */
    private static final int PLACE = 100;

    private final Shop shop = new Shop();
    private final Shop snapshot = new Shop();
    private final Shop draft = new Shop();
    private final Timetable present = new Timetable();
    private final Timetable trial = new Timetable();
    private final CriticalPath critical = new CriticalPath();
    private final Dispatcher dispatcher = new Dispatcher();
    private final RowSearch rowSearch = new RowSearch();
    private final BottleneckProcedure procedure = new BottleneckProcedure();
    private final TabuSearch tabuSearch = new TabuSearch();
    private final Bounds bounds = new Bounds();
    private final TextReader reader = new TextReader();
    private final Failure latest = new Failure();
    private boolean saved;

    public SetupJobShop() {
    }

    // Jobs, operations, setup times, breakdowns.

    public int addJob(int release, int due, int weight) throws IllegalArgumentException, IllegalStateException {
        if (!jobFits(release, due, weight)) {
            throw new IllegalArgumentException("release, due time or weight out of range");
        }
        if (shop.jobs >= JOBS) {
            throw new IllegalStateException("there are 5 jobs");
        }
        return shop.createJob(release, due, weight);
    }

    public int addOperation(int job, int machine, int duration, int family)
            throws IndexOutOfBoundsException, IllegalArgumentException, IllegalStateException {
        requireJob(job);
        requireMachine(machine);
        if (!durationFits(duration) || !isFamily(family)) {
            throw new IllegalArgumentException("duration or family out of range");
        }
        if (!shop.accepts(job, machine)) {
            throw new IllegalStateException("the job has 4 operations or one on this machine");
        }
        return shop.createOperation(job, machine, duration, family);
    }

    public int setJob(int job, int what, int value) throws IndexOutOfBoundsException, IllegalArgumentException {
        requireJob(job);
        if (!within(what, WEIGHT) || !within(value, JOB_LIMITS[what])) {
            throw new IllegalArgumentException("what or value out of range");
        }
        int previous = shop.jobData[job][what];
        shop.jobData[job][what] = value;
        return previous;
    }

    public int setDuration(int operation, int duration) throws IndexOutOfBoundsException, IllegalArgumentException {
        requireOperation(operation);
        if (!durationFits(duration)) {
            throw new IllegalArgumentException("duration out of range");
        }
        int previous = shop.durations[operation];
        shop.durations[operation] = duration;
        return previous;
    }

    public int setSetup(int from, int to, int time) throws IndexOutOfBoundsException, IllegalArgumentException {
        if (!isFamily(from) || !isFamily(to)) {
            throw new IndexOutOfBoundsException("no such family");
        }
        if (!within(time, SETUP_LIMIT)) {
            throw new IllegalArgumentException("setup time out of range");
        }
        int previous = shop.setups[from][to];
        shop.setups[from][to] = time;
        return previous;
    }

    public int addBreakdown(int machine, int first, int length)
            throws IndexOutOfBoundsException, IllegalArgumentException, IllegalStateException {
        requireMachine(machine);
        if (!within(first, FIRST_LIMIT) || length < 1 || length > LENGTH_LIMIT) {
            throw new IllegalArgumentException("first or length out of range");
        }
        if (shop.breakdowns[machine] >= BREAKDOWNS) {
            throw new IllegalStateException("the machine has 3 breakdowns");
        }
        return shop.createBreakdown(machine, first, length);
    }

    public int clearBreakdowns(int machine) throws IndexOutOfBoundsException {
        requireMachine(machine);
        int removed = shop.breakdowns[machine];
        shop.breakdowns[machine] = 0;
        return removed;
    }

    public int count(int what) throws IllegalArgumentException {
        if (!within(what, 1)) {
            throw new IllegalArgumentException("what is neither 0 nor 1");
        }
        return what == 0 ? shop.jobs : shop.operations;
    }

    public int property(int operation, int what) throws IndexOutOfBoundsException, IllegalArgumentException {
        requireOperation(operation);
        switch (what) {
            case 0:
                return shop.jobOf[operation];
            case 1:
                return shop.machineOf[operation];
            case 2:
                return shop.durations[operation];
            case 3:
                return shop.families[operation];
            case 4:
                return shop.stepOf[operation];
            case 5:
                return shop.orders.positionOf(shop.machineOf[operation], operation);
            default:
                throw new IllegalArgumentException("what is not from 0 to 5");
        }
    }

    public int order(int machine, int position) throws IndexOutOfBoundsException, NoSuchElementException {
        requireMachine(machine);
        if (!shop.orders.contains(machine, position)) {
            throw new NoSuchElementException("no such position");
        }
        return shop.orders.rows[machine][position];
    }

    // Schedule.

    public int time(int operation, int what) throws IndexOutOfBoundsException, IllegalArgumentException {
        requireOperation(operation);
        if (!within(what, 2)) {
            throw new IllegalArgumentException("what is not from 0 to 2");
        }
        present.compute(shop);
        if (what == 0) {
            return present.ready[operation];
        }
        return what == 1 ? present.start[operation] : present.end[operation];
    }

    public int makespan() {
        return presentSpan();
    }

    public int slack(int operation) throws IndexOutOfBoundsException {
        requireOperation(operation);
        int span = presentSpan();
        int start = present.start[operation];
        for (int delay = 1; delay <= SLACK_LIMIT; delay++) {
            trial.computeHolding(shop, operation, start + delay);
            if (trial.span != span) {
                return delay - 1;
            }
        }
        return SLACK_LIMIT;
    }

    public int completion(int job) throws IndexOutOfBoundsException {
        requireJob(job);
        present.compute(shop);
        return present.completionOf(shop, job);
    }

    public int objective(int what) throws IllegalArgumentException {
        present.compute(shop);
        switch (what) {
            case 0:
                return sumOfCompletions();
            case 1:
                return weightedTardiness();
            case 2:
                return tardyJobs();
            case 3:
                return sumOfSetups();
            case 4:
                return sumOfWaits();
            default:
                throw new IllegalArgumentException("what is not from 0 to 4");
        }
    }

    public double utilization(int machine) throws IndexOutOfBoundsException {
        requireMachine(machine);
        int span = presentSpan();
        if (span <= 0) {
            return 0.0;
        }
        int busy = 0;
        for (int position = 0; position < shop.orders.sizes[machine]; position++) {
            busy += shop.durations[shop.orders.rows[machine][position]];
        }
        return (double) busy / (double) span;
    }

    public int pathLength() {
        traceCritical();
        return critical.size;
    }

    public int path(int index) throws NoSuchElementException {
        traceCritical();
        if (index < 0 || index >= critical.size) {
            throw new NoSuchElementException("no such index");
        }
        return critical.operations[index];
    }

    public int blocks() {
        traceCritical();
        return critical.blockCount;
    }

    public int blockLength(int index) throws NoSuchElementException {
        traceCritical();
        if (index < 0 || index >= critical.blockCount) {
            throw new NoSuchElementException("no such block");
        }
        return critical.blockSizes[index];
    }

    // Changes of the orders.

    public int swap(int machine, int position)
            throws IndexOutOfBoundsException, NoSuchElementException, IllegalStateException {
        requireMachine(machine);
        if (position < 0 || position >= shop.orders.sizes[machine] - 1) {
            throw new NoSuchElementException("this position or the next one does not exist");
        }
        shop.orders.exchange(machine, position);
        if (!present.compute(shop)) {
            shop.orders.exchange(machine, position);
            noteCycle();
            throw new IllegalStateException("there would be a cycle");
        }
        return present.span;
    }

    public int move(int operation, int position)
            throws IndexOutOfBoundsException, IllegalArgumentException, IllegalStateException {
        requireOperation(operation);
        int machine = shop.machineOf[operation];
        if (!shop.orders.contains(machine, position)) {
            throw new IllegalArgumentException("no such position");
        }
        int former = shop.orders.positionOf(machine, operation);
        shop.orders.shift(machine, former, position);
        if (!present.compute(shop)) {
            shop.orders.shift(machine, position, former);
            noteCycle();
            throw new IllegalStateException("there would be a cycle");
        }
        return present.span;
    }

    public int dispatch(int rule) throws IllegalArgumentException {
        requireRule(rule);
        return dispatchFrom(0, rule);
    }

    public int repair(int time, int rule) throws IllegalArgumentException {
        if (!within(time, REPAIR_LIMIT)) {
            throw new IllegalArgumentException("time out of range");
        }
        requireRule(rule);
        return dispatchFrom(time, rule);
    }

    public int best(int machine) throws IndexOutOfBoundsException {
        requireMachine(machine);
        rowSearch.explore(shop, trial, machine);
        return rowSearch.leastSpan;
    }

    public int reoptimize(int machine) throws IndexOutOfBoundsException {
        requireMachine(machine);
        rowSearch.explore(shop, trial, machine);
        return rowSearch.install(shop.orders, machine);
    }

    public int shiftBottlenecks() {
        procedure.build(shop, rowSearch);
        return presentSpan();
    }

    public int bottleneck(int index) throws NoSuchElementException {
        if (index < 0 || index >= procedure.closed) {
            throw new NoSuchElementException("no such call or index");
        }
        return procedure.sequence[index];
    }

    public int tabu(int steps, int tenure) throws IllegalArgumentException {
        if (!within(steps, STEP_LIMIT) || !within(tenure, TENURE_LIMIT)) {
            throw new IllegalArgumentException("steps or tenure out of range");
        }
        return tabuSearch.search(shop, steps, tenure);
    }

    public int tabuSteps() {
        return tabuSearch.made;
    }

    // Bounds, texts, failures, snapshot.

    public int bound(int machine) throws IndexOutOfBoundsException {
        requireMachine(machine);
        return bounds.ofMachine(shop, machine);
    }

    public int lowerBound() {
        return bounds.ofShop(shop);
    }

    public void append(char c) throws IllegalStateException {
        if (reader.length >= TEXT_LIMIT) {
            throw new IllegalStateException("the buffer contains 80 characters");
        }
        reader.add(c);
    }

    public int read() throws IllegalArgumentException, IllegalStateException {
        int fault = reader.findFault();
        reader.length = 0;
        if (fault != NONE) {
            latest.begin(FAULT);
            latest.because(PLACE + fault);
            throw new IllegalArgumentException("the text has a fault");
        }
        draft.copyFrom(shop);
        if (!reader.createJobs(draft, latest)) {
            throw new IllegalStateException("the text cannot be executed");
        }
        int created = draft.jobs - shop.jobs;
        shop.copyFrom(draft);
        return created;
    }

    public int failure(int depth) throws IllegalArgumentException {
        if (depth < 0) {
            throw new IllegalArgumentException("depth is negative");
        }
        return latest.codeAt(depth);
    }

    public void save() {
        snapshot.copyFrom(shop);
        saved = true;
    }

    public void restore() throws IllegalStateException {
        if (!saved) {
            throw new IllegalStateException("there is no snapshot");
        }
        shop.copyFrom(snapshot);
    }

    // Tests of arguments.

    private static boolean within(int value, int limit) {
        return value >= 0 && value <= limit;
    }

    private static boolean jobFits(int release, int due, int weight) {
        return within(release, JOB_LIMITS[RELEASE]) && within(due, JOB_LIMITS[DUE])
                && within(weight, JOB_LIMITS[WEIGHT]);
    }

    private static boolean isMachine(int machine) {
        return machine >= 0 && machine < MACHINES;
    }

    private static boolean isFamily(int family) {
        return family >= 0 && family < FAMILIES;
    }

    private static boolean durationFits(int duration) {
        return duration >= 1 && duration <= DURATION_LIMIT;
    }

    private static void requireMachine(int machine) {
        if (!isMachine(machine)) {
            throw new IndexOutOfBoundsException("no such machine");
        }
    }

    private static void requireRule(int rule) {
        if (!within(rule, RULE_LIMIT)) {
            throw new IllegalArgumentException("rule out of range");
        }
    }

    private void requireJob(int job) {
        if (job < 0 || job >= shop.jobs) {
            throw new IndexOutOfBoundsException("no such job");
        }
    }

    private void requireOperation(int operation) {
        if (operation < 0 || operation >= shop.operations) {
            throw new IndexOutOfBoundsException("no such operation");
        }
    }

    // Parts of the calls above.

    private int presentSpan() {
        present.compute(shop);
        return present.span;
    }

    private void traceCritical() {
        present.compute(shop);
        critical.trace(shop, present);
    }

    private int dispatchFrom(int time, int rule) {
        present.compute(shop);
        dispatcher.build(shop, present, time, rule);
        return presentSpan();
    }

    /** To be called while the times of the refused orders still stand in the timetable. */
    private void noteCycle() {
        latest.begin(CYCLE);
        latest.because(PLACE + present.lowestUndefined(shop));
        latest.because(shop.operations - present.placed);
    }

    private int sumOfCompletions() {
        int sum = 0;
        for (int job = 0; job < shop.jobs; job++) {
            sum += present.completionOf(shop, job);
        }
        return sum;
    }

    private int tardinessOf(int job) {
        return Math.max(0, present.completionOf(shop, job) - shop.jobData[job][DUE]);
    }

    private int weightedTardiness() {
        int sum = 0;
        for (int job = 0; job < shop.jobs; job++) {
            sum += shop.jobData[job][WEIGHT] * tardinessOf(job);
        }
        return sum;
    }

    private int tardyJobs() {
        int tardy = 0;
        for (int job = 0; job < shop.jobs; job++) {
            if (tardinessOf(job) > 0) {
                tardy++;
            }
        }
        return tardy;
    }

    private int sumOfSetups() {
        int sum = 0;
        for (int machine = 0; machine < MACHINES; machine++) {
            int[] row = shop.orders.rows[machine];
            for (int position = 1; position < shop.orders.sizes[machine]; position++) {
                sum += shop.setupBetween(row[position - 1], row[position]);
            }
        }
        return sum;
    }

    private int sumOfWaits() {
        int sum = 0;
        for (int operation = 0; operation < shop.operations; operation++) {
            sum += present.start[operation] - present.ready[operation];
        }
        return sum;
    }

    private static void copyRow(int[] from, int[] to) {
        System.arraycopy(from, 0, to, 0, Math.min(from.length, to.length));
    }

    private static void copyRows(int[][] from, int[][] to) {
        int rows = Math.min(from.length, to.length);
        for (int row = 0; row < rows; row++) {
            copyRow(from[row], to[row]);
        }
    }

    /** The orders of all machines, as rows of operation numbers. */
    private static final class Orders {
        final int[] sizes = new int[MACHINES];
        final int[][] rows = new int[MACHINES][JOBS];

        void copyFrom(Orders other) {
            copyRow(other.sizes, sizes);
            copyRows(other.rows, rows);
        }

        void addLast(int machine, int operation) {
            int size = sizes[machine];
            if (size < JOBS) {
                rows[machine][size] = operation;
                sizes[machine] = size + 1;
            }
        }

        boolean contains(int machine, int position) {
            return position >= 0 && position < sizes[machine];
        }

        int positionOf(int machine, int operation) {
            for (int position = 0; position < sizes[machine]; position++) {
                if (rows[machine][position] == operation) {
                    return position;
                }
            }
            return 0;
        }

        void exchange(int machine, int position) {
            int[] row = rows[machine];
            int first = row[position];
            row[position] = row[position + 1];
            row[position + 1] = first;
        }

        void shift(int machine, int from, int to) {
            int step = from < to ? 1 : -1;
            int turns = Math.abs(to - from);
            int[] row = rows[machine];
            int operation = row[from];
            int place = from;
            for (int turn = 0; turn < turns; turn++) {
                row[place] = row[place + step];
                place += step;
            }
            row[to] = operation;
        }
    }

    /** What a snapshot keeps: jobs, operations, setup times, breakdowns and orders. */
    private static final class Shop {
        int jobs;
        int operations;
        /** Release, due time and weight of each job. */
        final int[][] jobData = new int[JOBS][3];
        final int[] stepCounts = new int[JOBS];
        /** The operations of each job, in their sequence. */
        final int[][] routes = new int[JOBS][STEPS];
        final int[] jobOf = new int[OPERATIONS];
        final int[] machineOf = new int[OPERATIONS];
        final int[] durations = new int[OPERATIONS];
        final int[] families = new int[OPERATIONS];
        final int[] stepOf = new int[OPERATIONS];
        final int[][] setups = new int[FAMILIES][FAMILIES];
        final int[] breakdowns = new int[MACHINES];
        final int[][] breakFirst = new int[MACHINES][BREAKDOWNS];
        /** The first time behind each breakdown. */
        final int[][] breakBehind = new int[MACHINES][BREAKDOWNS];
        final Orders orders = new Orders();

        void copyFrom(Shop other) {
            jobs = other.jobs;
            operations = other.operations;
            copyRows(other.jobData, jobData);
            copyRow(other.stepCounts, stepCounts);
            copyRows(other.routes, routes);
            copyRow(other.jobOf, jobOf);
            copyRow(other.machineOf, machineOf);
            copyRow(other.durations, durations);
            copyRow(other.families, families);
            copyRow(other.stepOf, stepOf);
            copyRows(other.setups, setups);
            copyRow(other.breakdowns, breakdowns);
            copyRows(other.breakFirst, breakFirst);
            copyRows(other.breakBehind, breakBehind);
            orders.copyFrom(other.orders);
        }

        int createJob(int release, int due, int weight) {
            int job = jobs;
            jobData[job][RELEASE] = release;
            jobData[job][DUE] = due;
            jobData[job][WEIGHT] = weight;
            stepCounts[job] = 0;
            jobs = job + 1;
            return job;
        }

        boolean accepts(int job, int machine) {
            if (stepCounts[job] >= STEPS || operations >= OPERATIONS) {
                return false;
            }
            for (int step = 0; step < stepCounts[job]; step++) {
                if (machineOf[routes[job][step]] == machine) {
                    return false;
                }
            }
            return true;
        }

        int createOperation(int job, int machine, int duration, int family) {
            int operation = operations;
            int step = stepCounts[job];
            routes[job][step] = operation;
            stepCounts[job] = step + 1;
            jobOf[operation] = job;
            machineOf[operation] = machine;
            durations[operation] = duration;
            families[operation] = family;
            stepOf[operation] = step;
            operations = operation + 1;
            orders.addLast(machine, operation);
            return operation;
        }

        int createBreakdown(int machine, int first, int length) {
            int number = breakdowns[machine];
            breakFirst[machine][number] = first;
            breakBehind[machine][number] = first + length;
            breakdowns[machine] = number + 1;
            return number + 1;
        }

        int setupBetween(int earlier, int later) {
            return setups[families[earlier]][families[later]];
        }

        /** The operation before another one in its job, or NONE. */
        int jobPredecessor(int operation) {
            int step = stepOf[operation];
            return step > 0 ? routes[jobOf[operation]][step - 1] : NONE;
        }

        /** The ready time of an operation that stands behind another one, or behind NONE, on its machine. */
        int readyTime(int operation, int before, int[] ends) {
            int job = jobOf[operation];
            int step = stepOf[operation];
            // The end of an earlier operation of the job is always behind the release.
            int time = step > 0 ? ends[routes[job][step - 1]] : jobData[job][RELEASE];
            int free = before == NONE ? 0 : ends[before] + setups[families[before]][families[operation]];
            return free > time ? free : time;
        }

        /**
         * The least start from a time on that keeps an operation clear of the breakdowns of its machine.
         * A breakdown moves the start at most once, so as many rounds as breakdowns are enough.
         */
        int startFrom(int operation, int time) {
            int machine = machineOf[operation];
            int number = breakdowns[machine];
            int start = time;
            for (int round = 0; round < number; round++) {
                for (int index = 0; index < number; index++) {
                    boolean meets = start < breakBehind[machine][index]
                            && breakFirst[machine][index] < start + durations[operation];
                    start = meets ? breakBehind[machine][index] : start;
                }
            }
            return start;
        }
    }

    /** The times of all operations, as the orders of the machines that are not open lead to them. */
    private static final class Timetable {
        final int[] ready = new int[OPERATIONS];
        final int[] start = new int[OPERATIONS];
        final int[] end = new int[OPERATIONS];
        /** The operation before each one in the order of its machine, or NONE. */
        final int[] machineBefore = new int[OPERATIONS];
        final boolean[] open = new boolean[MACHINES];
        int placed;
        int span;
        private final int[] stepsDone = new int[JOBS];
        private final int[] rowDone = new int[MACHINES];
        private int held = NONE;
        private int heldUntil;

        /** Answers whether the times of all operations are defined; a round without a new one tells a cycle. */
        boolean compute(Shop shop) {
            clear();
            for (int round = 0; round < OPERATIONS && placed < shop.operations; round++) {
                int before = placed;
                for (int job = 0; job < shop.jobs; job++) {
                    int step = stepsDone[job];
                    while (step < shop.stepCounts[job] && isNext(shop, shop.routes[job][step])) {
                        place(shop, shop.routes[job][step]);
                        step++;
                    }
                    stepsDone[job] = step;
                }
                if (placed == before) {
                    return false;
                }
            }
            return true;
        }

        /** Computes the times as if one operation could not start before a time. */
        void computeHolding(Shop shop, int operation, int time) {
            held = operation;
            heldUntil = time;
            compute(shop);
            held = NONE;
        }

        int completionOf(Shop shop, int job) {
            int steps = shop.stepCounts[job];
            return steps > 0 ? end[shop.routes[job][steps - 1]] : shop.jobData[job][RELEASE];
        }

        int lowestUndefined(Shop shop) {
            for (int operation = 0; operation < shop.operations; operation++) {
                if (shop.stepOf[operation] >= stepsDone[shop.jobOf[operation]]) {
                    return operation;
                }
            }
            return 0;
        }

        private void clear() {
            placed = 0;
            span = 0;
            for (int job = 0; job < JOBS; job++) {
                stepsDone[job] = 0;
            }
            for (int machine = 0; machine < MACHINES; machine++) {
                rowDone[machine] = 0;
            }
        }

        /** Answers whether an operation of an order stands behind the placed ones without a gap. */
        private boolean isNext(Shop shop, int operation) {
            int machine = shop.machineOf[operation];
            int position = rowDone[machine];
            return open[machine]
                    || position < shop.orders.sizes[machine] && shop.orders.rows[machine][position] == operation;
        }

        private void place(Shop shop, int operation) {
            int machine = shop.machineOf[operation];
            int position = rowDone[machine];
            boolean hasBefore = position > 0 && !open[machine];
            int before = hasBefore ? shop.orders.rows[machine][position - 1] : NONE;
            int time = shop.readyTime(operation, before, end);
            int earliest = operation == held ? Math.max(time, heldUntil) : time;
            ready[operation] = time;
            start[operation] = shop.startFrom(operation, earliest);
            end[operation] = start[operation] + shop.durations[operation];
            span = Math.max(span, end[operation]);
            machineBefore[operation] = before;
            rowDone[machine] = position + 1;
            placed++;
        }
    }

    /** The critical path of a timetable and its blocks. */
    private static final class CriticalPath {
        int size;
        final int[] operations = new int[OPERATIONS];
        int blockCount;
        final int[] blockSizes = new int[OPERATIONS];
        /** The index of each operation on the path, or NONE. */
        private final int[] indices = new int[OPERATIONS];

        void trace(Shop shop, Timetable times) {
            collectBackwards(shop, times);
            turnRound();
            countBlocks(shop);
        }

        boolean follows(int later, int earlier) {
            return indices[earlier] != NONE && indices[later] == indices[earlier] + 1;
        }

        private void collectBackwards(Shop shop, Timetable times) {
            size = 0;
            int operation = lastOf(shop, times);
            for (int turn = 0; turn < OPERATIONS && operation != NONE; turn++) {
                operations[size] = operation;
                size++;
                operation = before(shop, times, operation);
            }
        }

        private static int lastOf(Shop shop, Timetable times) {
            int last = NONE;
            for (int operation = 0; operation < shop.operations; operation++) {
                if (last == NONE || times.end[operation] > times.end[last]) {
                    last = operation;
                }
            }
            return last;
        }

        private static int before(Shop shop, Timetable times, int operation) {
            int ready = times.ready[operation];
            int jobBefore = shop.jobPredecessor(operation);
            if (jobBefore != NONE && times.end[jobBefore] == ready) {
                return jobBefore;
            }
            int machineBefore = times.machineBefore[operation];
            if (machineBefore != NONE
                    && times.end[machineBefore] + shop.setupBetween(machineBefore, operation) == ready) {
                return machineBefore;
            }
            return NONE;
        }

        private void turnRound() {
            for (int low = 0; low < size / 2; low++) {
                int high = size - 1 - low;
                int operation = operations[low];
                operations[low] = operations[high];
                operations[high] = operation;
            }
            for (int operation = 0; operation < OPERATIONS; operation++) {
                indices[operation] = NONE;
            }
            for (int index = 0; index < size; index++) {
                indices[operations[index]] = index;
            }
        }

        private void countBlocks(Shop shop) {
            blockCount = 0;
            int machine = NONE;
            for (int index = 0; index < size; index++) {
                int next = shop.machineOf[operations[index]];
                if (next != machine) {
                    machine = next;
                    blockSizes[blockCount] = 0;
                    blockCount++;
                }
                blockSizes[blockCount - 1]++;
            }
        }
    }

    /** Builds orders by dispatching. */
    private static final class Dispatcher {
        private final int[] end = new int[OPERATIONS];
        private final int[] stepsDone = new int[JOBS];
        private int chosen;
        private int chosenStart;

        /** Keeps what starts before a time in the present schedule, and builds the rest anew. */
        void build(Shop shop, Timetable present, int time, int rule) {
            int kept = keepBeginnings(shop, present, time);
            for (int turn = kept; turn < shop.operations; turn++) {
                choose(shop, time, rule);
                if (chosen == NONE) {
                    return;
                }
                shop.orders.addLast(shop.machineOf[chosen], chosen);
                end[chosen] = chosenStart + shop.durations[chosen];
                stepsDone[shop.jobOf[chosen]]++;
            }
        }

        /**
         * Starts grow along each job and each order, so what starts before a time stands at their beginnings.
         * Answers how many operations are kept.
         */
        private int keepBeginnings(Shop shop, Timetable present, int time) {
            for (int job = 0; job < JOBS; job++) {
                stepsDone[job] = 0;
            }
            for (int machine = 0; machine < MACHINES; machine++) {
                shop.orders.sizes[machine] = startsBefore(shop, present, machine, time);
            }
            int kept = 0;
            for (int operation = 0; operation < shop.operations; operation++) {
                if (present.start[operation] < time) {
                    end[operation] = present.end[operation];
                    stepsDone[shop.jobOf[operation]]++;
                    kept++;
                }
            }
            return kept;
        }

        private static int startsBefore(Shop shop, Timetable present, int machine, int time) {
            int size = shop.orders.sizes[machine];
            for (int position = 0; position < size; position++) {
                if (present.start[shop.orders.rows[machine][position]] >= time) {
                    return position;
                }
            }
            return size;
        }

        private void choose(Shop shop, int time, int rule) {
            chosen = NONE;
            for (int job = 0; job < shop.jobs; job++) {
                if (stepsDone[job] < shop.stepCounts[job]) {
                    int candidate = shop.routes[job][stepsDone[job]];
                    int start = startOf(shop, candidate, time);
                    boolean tie = chosen != NONE && start == chosenStart;
                    if (chosen == NONE || start < chosenStart
                            || tie && rank(shop, candidate, rule) < rank(shop, chosen, rule)) {
                        chosen = candidate;
                        chosenStart = start;
                    }
                }
            }
        }

        private int startOf(Shop shop, int candidate, int time) {
            int machine = shop.machineOf[candidate];
            int size = shop.orders.sizes[machine];
            int before = size > 0 ? shop.orders.rows[machine][size - 1] : NONE;
            int ready = shop.readyTime(candidate, before, end);
            return shop.startFrom(candidate, Math.max(ready, time));
        }

        /** The candidate with the lesser rank is preferred. */
        private static int rank(Shop shop, int candidate, int rule) {
            switch (rule) {
                case SHORTEST_FIRST:
                    return shop.durations[candidate];
                case MOST_WORK_FIRST:
                    return -workFrom(shop, candidate);
                case DUE_FIRST:
                    return shop.jobData[shop.jobOf[candidate]][DUE];
                default:
                    return 0;
            }
        }

        private static int workFrom(Shop shop, int candidate) {
            int job = shop.jobOf[candidate];
            int work = 0;
            for (int step = shop.stepOf[candidate]; step < shop.stepCounts[job]; step++) {
                work += shop.durations[shop.routes[job][step]];
            }
            return work;
        }
    }

    /** Finds the lexicographically least of the orders of one machine that lead to the least makespan. */
    private static final class RowSearch {
        int leastSpan;
        final int[] leastRow = new int[JOBS];
        private final int[] formerRow = new int[JOBS];

        /** Leaves the orders as they were; the row found stays here. The machine is closed in the timetable. */
        void explore(Shop shop, Timetable times, int machine) {
            times.open[machine] = true;
            times.compute(shop);
            times.open[machine] = false;
            // An order only delays operations, so nothing behind a row with this makespan can be better.
            int floor = times.span;
            int[] row = shop.orders.rows[machine];
            int size = shop.orders.sizes[machine];
            copyRow(row, formerRow);
            sort(row, size);
            boolean found = false;
            for (int turn = 0; turn < PERMUTATIONS; turn++) {
                if (times.compute(shop) && (!found || times.span < leastSpan)) {
                    found = true;
                    leastSpan = times.span;
                    copyRow(row, leastRow);
                }
                boolean perfect = found && leastSpan <= floor;
                if (perfect || !advance(row, size)) {
                    break;
                }
            }
            copyRow(formerRow, row);
        }

        /** Puts the row found in place and answers at how many positions it is another one. */
        int install(Orders orders, int machine) {
            int changed = 0;
            for (int position = 0; position < orders.sizes[machine]; position++) {
                if (orders.rows[machine][position] != leastRow[position]) {
                    changed++;
                }
            }
            copyRow(leastRow, orders.rows[machine]);
            return changed;
        }

        private static void sort(int[] row, int size) {
            for (int filled = 1; filled < size; filled++) {
                for (int place = filled; place > 0; place--) {
                    if (row[place - 1] > row[place]) {
                        exchange(row, place - 1, place);
                    }
                }
            }
        }

        /** Makes a row the next one in lexicographical order; answers false if it was the last one. */
        private static boolean advance(int[] row, int size) {
            int pivot = size - 2;
            while (pivot >= 0 && row[pivot] > row[pivot + 1]) {
                pivot--;
            }
            if (pivot < 0) {
                return false;
            }
            int partner = size - 1;
            while (partner > pivot + 1 && row[partner] < row[pivot]) {
                partner--;
            }
            exchange(row, pivot, partner);
            int high = size - 1;
            for (int low = pivot + 1; low < high; low++) {
                exchange(row, low, high);
                high--;
            }
            return true;
        }

        private static void exchange(int[] row, int one, int other) {
            int operation = row[one];
            row[one] = row[other];
            row[other] = operation;
        }
    }

    /** The shifting bottleneck procedure, and the sequence in which it closed the machines. */
    private static final class BottleneckProcedure {
        /** 0 before the first call, afterwards the number of all machines. */
        int closed;
        final int[] sequence = new int[MACHINES];
        private final Timetable times = new Timetable();
        private final int[] chosenRow = new int[JOBS];

        void build(Shop shop, RowSearch rowSearch) {
            for (int machine = 0; machine < MACHINES; machine++) {
                times.open[machine] = true;
            }
            for (int turn = 0; turn < MACHINES; turn++) {
                closeNext(shop, rowSearch, turn);
                for (int index = 0; index < turn; index++) {
                    rowSearch.explore(shop, times, sequence[index]);
                    rowSearch.install(shop.orders, sequence[index]);
                }
            }
            closed = MACHINES;
        }

        private void closeNext(Shop shop, RowSearch rowSearch, int turn) {
            int chosen = NONE;
            int greatest = 0;
            for (int machine = 0; machine < MACHINES; machine++) {
                if (times.open[machine]) {
                    rowSearch.explore(shop, times, machine);
                    times.open[machine] = true;
                    if (chosen == NONE || rowSearch.leastSpan > greatest) {
                        chosen = machine;
                        greatest = rowSearch.leastSpan;
                        copyRow(rowSearch.leastRow, chosenRow);
                    }
                }
            }
            if (chosen != NONE) {
                times.open[chosen] = false;
                copyRow(chosenRow, shop.orders.rows[chosen]);
                sequence[turn] = chosen;
            }
        }
    }

    /** The tabu search, and the number of steps of its latest run. */
    private static final class TabuSearch {
        int made;
        private final Timetable times = new Timetable();
        private final CriticalPath critical = new CriticalPath();
        private final Orders leastOrders = new Orders();
        private int leastSpan;
        /** At [a][b] the latest step that put a before b, 0 if there was none. */
        private final int[][] stepOfSwap = new int[OPERATIONS][OPERATIONS];
        private int chosenMachine;
        private int chosenPosition;
        private int chosenSpan;

        int search(Shop shop, int steps, int tenure) {
            forgetSwaps();
            made = 0;
            times.compute(shop);
            leastSpan = times.span;
            leastOrders.copyFrom(shop.orders);
            for (int step = 1; step <= steps; step++) {
                times.compute(shop);
                critical.trace(shop, times);
                choose(shop, step - tenure);
                if (chosenMachine == NONE) {
                    break;
                }
                makeChosen(shop, step);
            }
            shop.orders.copyFrom(leastOrders);
            return leastSpan;
        }

        private void forgetSwaps() {
            for (int first = 0; first < OPERATIONS; first++) {
                for (int second = 0; second < OPERATIONS; second++) {
                    stepOfSwap[first][second] = 0;
                }
            }
        }

        /** Swaps made in a step from oldest on must not be undone without a new least makespan. */
        private void choose(Shop shop, int oldest) {
            chosenMachine = NONE;
            for (int machine = 0; machine < MACHINES; machine++) {
                for (int position = 0; position < shop.orders.sizes[machine] - 1; position++) {
                    consider(shop, machine, position, oldest);
                }
            }
        }

        private void consider(Shop shop, int machine, int position, int oldest) {
            int first = shop.orders.rows[machine][position];
            int second = shop.orders.rows[machine][position + 1];
            if (!critical.follows(second, first)) {
                return;
            }
            shop.orders.exchange(machine, position);
            boolean possible = times.compute(shop);
            shop.orders.exchange(machine, position);
            int swapped = stepOfSwap[first][second];
            boolean forbidden = swapped > 0 && swapped >= oldest && times.span >= leastSpan;
            if (possible && !forbidden && (chosenMachine == NONE || times.span < chosenSpan)) {
                chosenMachine = machine;
                chosenPosition = position;
                chosenSpan = times.span;
            }
        }

        private void makeChosen(Shop shop, int step) {
            shop.orders.exchange(chosenMachine, chosenPosition);
            int[] row = shop.orders.rows[chosenMachine];
            stepOfSwap[row[chosenPosition]][row[chosenPosition + 1]] = step;
            made = step;
            if (chosenSpan < leastSpan) {
                leastSpan = chosenSpan;
                leastOrders.copyFrom(shop.orders);
            }
        }
    }

    /** The lower bounds. */
    private static final class Bounds {
        private int size;
        /** The operations of a machine by their numbers, with their heads, tails and unprocessed durations. */
        private final int[] heads = new int[JOBS];
        private final int[] tails = new int[JOBS];
        private final int[] rests = new int[JOBS];

        int ofShop(Shop shop) {
            int greatest = 0;
            for (int machine = 0; machine < MACHINES; machine++) {
                greatest = Math.max(greatest, ofMachine(shop, machine));
            }
            for (int job = 0; job < shop.jobs; job++) {
                if (shop.stepCounts[job] > 0) {
                    greatest = Math.max(greatest,
                            shop.jobData[job][RELEASE] + work(shop, job, 0, shop.stepCounts[job]));
                }
            }
            return greatest;
        }

        int ofMachine(Shop shop, int machine) {
            collect(shop, machine);
            int unfinished = size;
            int greatest = 0;
            for (int time = 0; time < HORIZON && unfinished > 0; time++) {
                int chosen = choose(time);
                if (chosen != NONE) {
                    rests[chosen]--;
                    if (rests[chosen] == 0) {
                        unfinished--;
                        greatest = Math.max(greatest, time + 1 + tails[chosen]);
                    }
                }
            }
            return greatest;
        }

        private void collect(Shop shop, int machine) {
            size = 0;
            for (int operation = 0; operation < shop.operations; operation++) {
                if (shop.machineOf[operation] == machine && size < JOBS) {
                    int job = shop.jobOf[operation];
                    int step = shop.stepOf[operation];
                    heads[size] = shop.jobData[job][RELEASE] + work(shop, job, 0, step);
                    tails[size] = work(shop, job, step + 1, shop.stepCounts[job]);
                    rests[size] = shop.durations[operation];
                    size++;
                }
            }
        }

        private int choose(int time) {
            int chosen = NONE;
            for (int index = 0; index < size; index++) {
                boolean available = heads[index] <= time && rests[index] > 0;
                if (available && (chosen == NONE || tails[index] > tails[chosen])) {
                    chosen = index;
                }
            }
            return chosen;
        }

        private static int work(Shop shop, int job, int from, int to) {
            int sum = 0;
            for (int step = from; step < to; step++) {
                sum += shop.durations[shop.routes[job][step]];
            }
            return sum;
        }
    }

    /** The text buffer, and the numbers of its text, three for each job and each operation. */
    private static final class TextReader {
        int length;
        private final char[] text = new char[TEXT_LIMIT];
        private int numbers;
        private final int[] values = new int[TEXT_LIMIT];
        private final int[] kinds = new int[TEXT_LIMIT];
        private int kind;
        private int digits;
        private int value;

        void add(char c) {
            text[length] = c;
            length++;
        }

        /** Answers the fault position of the text, or NONE; without a fault the numbers are kept. */
        int findFault() {
            numbers = 0;
            beginNumber(RELEASE);
            for (int index = 0; index < length; index++) {
                char c = text[index];
                if (c >= '0' && c <= '9' && takesDigit()) {
                    value = value * 10 + (c - '0');
                    digits++;
                } else {
                    int next = kindBehind(c);
                    if (digits == 0 || next == NONE) {
                        return index;
                    }
                    endNumber();
                    beginNumber(next);
                }
            }
            if (kind != FAMILY || digits == 0) {
                return length;
            }
            endNumber();
            return NONE;
        }

        /** Creates the jobs of the text in a shop, up to the first thing that cannot be; this is a failure. */
        boolean createJobs(Shop shop, Failure failure) {
            int job = NONE;
            int step = 0;
            for (int at = 0; at + 2 < numbers; at += 3) {
                if (kinds[at] == RELEASE) {
                    job++;
                    step = 0;
                    int reason = reasonAgainstJob(shop, at);
                    if (reason != 0) {
                        refuse(failure, job, reason);
                        return false;
                    }
                    shop.createJob(values[at], values[at + 1], values[at + 2]);
                } else {
                    if (!operationFits(shop, at)) {
                        refuse(failure, job, BAD_OPERATION);
                        failure.because(PLACE + step);
                        return false;
                    }
                    shop.createOperation(shop.jobs - 1, values[at], values[at + 1], values[at + 2]);
                    step++;
                }
            }
            return true;
        }

        private void beginNumber(int newKind) {
            kind = newKind;
            digits = 0;
            value = 0;
        }

        private void endNumber() {
            if (numbers < TEXT_LIMIT) {
                kinds[numbers] = kind;
                values[numbers] = value;
                numbers++;
            }
        }

        private boolean takesDigit() {
            if (kind == MACHINE || kind == FAMILY) {
                return digits == 0;
            }
            return digits == 0 || digits < 3 && value > 0;
        }

        /** The kind of the number that follows a sign behind the present number, NONE if the sign is wrong. */
        private int kindBehind(char sign) {
            switch (kind) {
                case RELEASE:
                    return sign == ',' ? DUE : NONE;
                case DUE:
                    return sign == ',' ? WEIGHT : NONE;
                case WEIGHT:
                    return sign == ':' ? MACHINE : NONE;
                case MACHINE:
                    return sign == '.' ? DURATION : NONE;
                case DURATION:
                    return sign == '.' ? FAMILY : NONE;
                default:
                    if (sign == '/') {
                        return MACHINE;
                    }
                    return sign == ';' ? RELEASE : NONE;
            }
        }

        private int reasonAgainstJob(Shop shop, int at) {
            if (shop.jobs >= JOBS) {
                return SIXTH_JOB;
            }
            return jobFits(values[at], values[at + 1], values[at + 2]) ? 0 : BAD_JOB;
        }

        private boolean operationFits(Shop shop, int at) {
            return isMachine(values[at]) && durationFits(values[at + 1]) && isFamily(values[at + 2])
                    && shop.jobs > 0 && shop.accepts(shop.jobs - 1, values[at]);
        }

        private static void refuse(Failure failure, int job, int reason) {
            failure.begin(NOT_EXECUTABLE);
            failure.because(PLACE + job);
            failure.because(reason);
        }
    }

    /** The latest failure, as a row of codes: its own, then those of its causes. */
    private static final class Failure {
        private int size;
        private final int[] codes = new int[4];

        void begin(int code) {
            codes[0] = code;
            size = 1;
        }

        void because(int code) {
            if (size < codes.length) {
                codes[size] = code;
                size++;
            }
        }

        int codeAt(int depth) {
            if (depth < size) {
                return codes[depth];
            }
            return depth == 0 ? 0 : NONE;
        }
    }
}
