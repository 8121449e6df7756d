import java.util.ArrayList;
import java.util.Arrays;
import java.util.HashMap;
import java.util.HashSet;
import java.util.List;
import java.util.Map;
import java.util.NoSuchElementException;
import java.util.Set;
import java.util.regex.Matcher;
import java.util.regex.Pattern;

/**
 * The document once more, written down as literally as possible and in another way than SetupJobShop: with lists,
 * recursion and regular expressions, unit of time by unit of time. RandomRunsTest compares the two.
 */
public final class PlainShop {
    private record Job(int release, int due, int weight) {
    }

    private record Op(int job, int machine, int duration, int family) {
    }

    private record Breakdown(int first, int length) {
    }

    private record Times(int ready, int start, int end) {
    }

    private record Snapshot(List<Job> jobs, List<Op> ops, int[][] setups, List<List<Breakdown>> breakdowns,
            List<List<Integer>> orders) {
    }

    private record Swap(int machine, int position, int span) {
    }

    private List<Job> jobs = new ArrayList<>();
    private List<Op> ops = new ArrayList<>();
    private int[][] setups = new int[3][3];
    private List<List<Breakdown>> breakdowns = rowsFor4();
    private List<List<Integer>> orders = rowsFor4();
    private Snapshot snapshot = null;
    private final List<Integer> closed = new ArrayList<>();
    private int tabuSteps = 0;
    private String text = "";
    private List<Integer> failure = List.of();

    private static <T> List<List<T>> rowsFor4() {
        List<List<T>> rows = new ArrayList<>();
        for (int i = 0; i < 4; i++) {
            rows.add(new ArrayList<>());
        }
        return rows;
    }

    private static <T> List<List<T>> copy(List<List<T>> rows) {
        List<List<T>> copies = new ArrayList<>();
        for (List<T> row : rows) {
            copies.add(new ArrayList<>(row));
        }
        return copies;
    }

    private static void index(boolean good) {
        if (!good) {
            throw new IndexOutOfBoundsException();
        }
    }

    private static void argument(boolean good) {
        if (!good) {
            throw new IllegalArgumentException();
        }
    }

    private static void state(boolean good) {
        if (!good) {
            throw new IllegalStateException();
        }
    }

    private static void element(boolean good) {
        if (!good) {
            throw new NoSuchElementException();
        }
    }

    private static boolean in(int value, int low, int high) {
        return low <= value && value <= high;
    }

    private List<Integer> route(int job) {
        List<Integer> route = new ArrayList<>();
        for (int o = 0; o < ops.size(); o++) {
            if (ops.get(o).job == job) {
                route.add(o);
            }
        }
        return route;
    }

    public int addJob(int release, int due, int weight) {
        argument(in(release, 0, 99) && in(due, 0, 200) && in(weight, 0, 9));
        state(jobs.size() < 5);
        jobs.add(new Job(release, due, weight));
        return jobs.size() - 1;
    }

    public int addOperation(int job, int machine, int duration, int family) {
        index(in(job, 0, jobs.size() - 1) && in(machine, 0, 3));
        argument(in(duration, 1, 30) && in(family, 0, 2));
        state(route(job).size() < 4);
        for (int o : route(job)) {
            state(ops.get(o).machine != machine);
        }
        ops.add(new Op(job, machine, duration, family));
        orders.get(machine).add(ops.size() - 1);
        return ops.size() - 1;
    }

    public int setJob(int job, int what, int value) {
        index(in(job, 0, jobs.size() - 1));
        argument(in(what, 0, 2));
        Job old = jobs.get(job);
        if (what == 0) {
            argument(in(value, 0, 99));
            jobs.set(job, new Job(value, old.due, old.weight));
            return old.release;
        }
        if (what == 1) {
            argument(in(value, 0, 200));
            jobs.set(job, new Job(old.release, value, old.weight));
            return old.due;
        }
        argument(in(value, 0, 9));
        jobs.set(job, new Job(old.release, old.due, value));
        return old.weight;
    }

    public int setDuration(int operation, int duration) {
        index(in(operation, 0, ops.size() - 1));
        argument(in(duration, 1, 30));
        Op old = ops.get(operation);
        ops.set(operation, new Op(old.job, old.machine, duration, old.family));
        return old.duration;
    }

    public int setSetup(int from, int to, int time) {
        index(in(from, 0, 2) && in(to, 0, 2));
        argument(in(time, 0, 9));
        int old = setups[from][to];
        setups[from][to] = time;
        return old;
    }

    public int addBreakdown(int machine, int first, int length) {
        index(in(machine, 0, 3));
        argument(in(first, 0, 400) && in(length, 1, 60));
        state(breakdowns.get(machine).size() < 3);
        breakdowns.get(machine).add(new Breakdown(first, length));
        return breakdowns.get(machine).size();
    }

    public int clearBreakdowns(int machine) {
        index(in(machine, 0, 3));
        int removed = breakdowns.get(machine).size();
        breakdowns.get(machine).clear();
        return removed;
    }

    public int count(int what) {
        argument(in(what, 0, 1));
        return List.of(jobs.size(), ops.size()).get(what);
    }

    public int property(int operation, int what) {
        index(in(operation, 0, ops.size() - 1));
        argument(in(what, 0, 5));
        Op op = ops.get(operation);
        return List.of(op.job, op.machine, op.duration, op.family, route(op.job).indexOf(operation),
                orders.get(op.machine).indexOf(operation)).get(what);
    }

    public int order(int machine, int position) {
        index(in(machine, 0, 3));
        element(in(position, 0, orders.get(machine).size() - 1));
        return orders.get(machine).get(position);
    }

    /** The schedule for orders of which an open machine has none (null), as a map without the undefined times. */
    private Map<Integer, Times> schedule(List<List<Integer>> rows, int held, int heldUntil) {
        Map<Integer, Times> times = new HashMap<>();
        Set<Integer> seen = new HashSet<>();
        for (int o = 0; o < ops.size(); o++) {
            define(o, rows, held, heldUntil, times, seen);
        }
        return times;
    }

    private Times define(int o, List<List<Integer>> rows, int held, int heldUntil, Map<Integer, Times> times,
            Set<Integer> seen) {
        if (!seen.add(o)) {
            return times.get(o);
        }
        Op op = ops.get(o);
        int ready = jobs.get(op.job).release;
        List<Integer> route = route(op.job);
        int step = route.indexOf(o);
        if (step > 0) {
            Times before = define(route.get(step - 1), rows, held, heldUntil, times, seen);
            if (before == null) {
                return null;
            }
            ready = Math.max(ready, before.end);
        }
        List<Integer> row = rows.get(op.machine);
        int position = row == null ? 0 : row.indexOf(o);
        if (position > 0) {
            Times before = define(row.get(position - 1), rows, held, heldUntil, times, seen);
            if (before == null) {
                return null;
            }
            ready = Math.max(ready, before.end + setups[ops.get(row.get(position - 1)).family][op.family]);
        }
        int start = firstStart(op, o == held ? Math.max(ready, heldUntil) : ready);
        Times result = new Times(ready, start, start + op.duration);
        times.put(o, result);
        return result;
    }

    private int firstStart(Op op, int from) {
        for (int start = from;; start++) {
            boolean clear = true;
            for (int unit = start; unit < start + op.duration; unit++) {
                for (Breakdown b : breakdowns.get(op.machine)) {
                    clear &= unit < b.first || unit > b.first + b.length - 1;
                }
            }
            if (clear) {
                return start;
            }
        }
    }

    private Map<Integer, Times> present() {
        return schedule(orders, -1, 0);
    }

    private static int span(Map<Integer, Times> times) {
        int span = 0;
        for (Times t : times.values()) {
            span = Math.max(span, t.end);
        }
        return span;
    }

    public int time(int operation, int what) {
        index(in(operation, 0, ops.size() - 1));
        argument(in(what, 0, 2));
        Times t = present().get(operation);
        return List.of(t.ready, t.start, t.end).get(what);
    }

    public int makespan() {
        return span(present());
    }

    public int slack(int operation) {
        index(in(operation, 0, ops.size() - 1));
        int start = present().get(operation).start;
        int greatest = 0;
        for (int d = 0; d <= 60; d++) {
            if (span(schedule(orders, operation, start + d)) == makespan()) {
                greatest = d;
            }
        }
        return greatest;
    }

    public int completion(int job) {
        index(in(job, 0, jobs.size() - 1));
        int completion = jobs.get(job).release;
        for (int o : route(job)) {
            completion = present().get(o).end;
        }
        return completion;
    }

    public int objective(int what) {
        argument(in(what, 0, 4));
        int[] sums = new int[5];
        for (int job = 0; job < jobs.size(); job++) {
            int tardiness = Math.max(0, completion(job) - jobs.get(job).due);
            sums[0] += completion(job);
            sums[1] += jobs.get(job).weight * tardiness;
            sums[2] += tardiness > 0 ? 1 : 0;
        }
        for (List<Integer> row : orders) {
            for (int i = 0; i + 1 < row.size(); i++) {
                sums[3] += setups[ops.get(row.get(i)).family][ops.get(row.get(i + 1)).family];
            }
        }
        for (Times t : present().values()) {
            sums[4] += t.start - t.ready;
        }
        return sums[what];
    }

    public double utilization(int machine) {
        index(in(machine, 0, 3));
        double sum = 0;
        for (int o : orders.get(machine)) {
            sum += ops.get(o).duration;
        }
        return makespan() == 0 ? 0.0 : sum / makespan();
    }

    private List<Integer> criticalPath() {
        List<Integer> path = new ArrayList<>();
        Map<Integer, Times> times = present();
        for (int o = 0; o < ops.size(); o++) {
            if (times.get(o).end == span(times)) {
                path.add(o);
                break;
            }
        }
        while (!path.isEmpty()) {
            int o = path.get(0);
            Op op = ops.get(o);
            int ready = times.get(o).ready;
            int step = route(op.job).indexOf(o);
            List<Integer> row = orders.get(op.machine);
            int position = row.indexOf(o);
            if (step > 0 && times.get(route(op.job).get(step - 1)).end == ready) {
                path.add(0, route(op.job).get(step - 1));
            } else if (position > 0 && times.get(row.get(position - 1)).end
                    + setups[ops.get(row.get(position - 1)).family][op.family] == ready) {
                path.add(0, row.get(position - 1));
            } else {
                break;
            }
        }
        return path;
    }

    private List<List<Integer>> criticalBlocks() {
        List<List<Integer>> blocks = new ArrayList<>();
        int machine = -1;
        for (int o : criticalPath()) {
            if (ops.get(o).machine != machine) {
                blocks.add(new ArrayList<>());
            }
            machine = ops.get(o).machine;
            blocks.get(blocks.size() - 1).add(o);
        }
        return blocks;
    }

    public int pathLength() {
        return criticalPath().size();
    }

    public int path(int index) {
        element(in(index, 0, criticalPath().size() - 1));
        return criticalPath().get(index);
    }

    public int blocks() {
        return criticalBlocks().size();
    }

    public int blockLength(int index) {
        element(in(index, 0, criticalBlocks().size() - 1));
        return criticalBlocks().get(index).size();
    }

    private int change(List<List<Integer>> changed) {
        Map<Integer, Times> times = schedule(changed, -1, 0);
        if (times.size() < ops.size()) {
            int lowest = 0;
            while (times.containsKey(lowest)) {
                lowest++;
            }
            failure = List.of(1, 100 + lowest, ops.size() - times.size());
            throw new IllegalStateException();
        }
        orders = changed;
        return span(times);
    }

    public int swap(int machine, int position) {
        index(in(machine, 0, 3));
        element(in(position, 0, orders.get(machine).size() - 2));
        List<List<Integer>> changed = copy(orders);
        changed.get(machine).add(position + 1, changed.get(machine).remove(position));
        return change(changed);
    }

    public int move(int operation, int position) {
        index(in(operation, 0, ops.size() - 1));
        int machine = ops.get(operation).machine;
        argument(in(position, 0, orders.get(machine).size() - 1));
        List<List<Integer>> changed = copy(orders);
        changed.get(machine).remove((Integer) operation);
        changed.get(machine).add(position, operation);
        return change(changed);
    }

    public int dispatch(int rule) {
        argument(in(rule, 0, 3));
        orders = rowsFor4();
        build(new HashMap<>(), 0, rule);
        return makespan();
    }

    public int repair(int time, int rule) {
        argument(in(time, 0, 999) && in(rule, 0, 3));
        Map<Integer, Times> kept = present();
        kept.values().removeIf(t -> t.start >= time);
        for (List<Integer> row : orders) {
            row.removeIf(o -> !kept.containsKey(o));
        }
        build(kept, time, rule);
        return makespan();
    }

    private void build(Map<Integer, Times> times, int from, int rule) {
        while (times.size() < ops.size()) {
            List<int[]> keys = new ArrayList<>();
            Map<Integer, Times> candidates = new HashMap<>();
            for (int job = 0; job < jobs.size(); job++) {
                for (int o : route(job)) {
                    if (!times.containsKey(o)) {
                        Times t = asCandidate(o, times, from);
                        candidates.put(o, t);
                        keys.add(new int[] {t.start, preference(o, rule), job, o});
                        break;
                    }
                }
            }
            keys.sort((a, b) -> Arrays.compare(a, b));
            int o = keys.get(0)[3];
            times.put(o, candidates.get(o));
            orders.get(ops.get(o).machine).add(o);
        }
    }

    private Times asCandidate(int o, Map<Integer, Times> times, int from) {
        Op op = ops.get(o);
        int ready = jobs.get(op.job).release;
        for (int other : route(op.job)) {
            if (other < o) {
                ready = Math.max(ready, times.get(other).end);
            }
        }
        List<Integer> row = orders.get(op.machine);
        if (!row.isEmpty()) {
            int last = row.get(row.size() - 1);
            ready = Math.max(ready, times.get(last).end + setups[ops.get(last).family][op.family]);
        }
        int start = firstStart(op, Math.max(ready, from));
        return new Times(ready, start, start + op.duration);
    }

    private int preference(int o, int rule) {
        int rest = 0;
        for (int other : route(ops.get(o).job)) {
            rest += other >= o ? ops.get(other).duration : 0;
        }
        return new int[] {ops.get(o).duration, -rest, jobs.get(ops.get(o).job).due, 0}[rule];
    }

    /** The orders with the best row for a machine; the machines that are open have null there. */
    private List<List<Integer>> optimized(List<List<Integer>> rows, int machine) {
        List<List<Integer>> all = new ArrayList<>();
        List<Integer> rest = new ArrayList<>();
        for (int o = 0; o < ops.size(); o++) {
            if (ops.get(o).machine == machine) {
                rest.add(o);
            }
        }
        permute(new ArrayList<>(), rest, all);
        List<List<Integer>> best = null;
        int least = Integer.MAX_VALUE;
        for (List<Integer> row : all) {
            List<List<Integer>> changed = new ArrayList<>(rows);
            changed.set(machine, row);
            Map<Integer, Times> times = schedule(changed, -1, 0);
            if (times.size() == ops.size() && span(times) < least) {
                least = span(times);
                best = changed;
            }
        }
        return best;
    }

    private static void permute(List<Integer> begun, List<Integer> rest, List<List<Integer>> all) {
        if (rest.isEmpty()) {
            all.add(new ArrayList<>(begun));
        }
        for (int i = 0; i < rest.size(); i++) {
            List<Integer> longer = new ArrayList<>(begun);
            List<Integer> fewer = new ArrayList<>(rest);
            longer.add(fewer.remove(i));
            permute(longer, fewer, all);
        }
    }

    public int best(int machine) {
        index(in(machine, 0, 3));
        return span(schedule(optimized(orders, machine), -1, 0));
    }

    public int reoptimize(int machine) {
        index(in(machine, 0, 3));
        List<Integer> before = orders.get(machine);
        orders = copy(optimized(orders, machine));
        int changed = 0;
        for (int i = 0; i < before.size(); i++) {
            changed += before.get(i).equals(orders.get(machine).get(i)) ? 0 : 1;
        }
        return changed;
    }

    public int shiftBottlenecks() {
        List<List<Integer>> rows = new ArrayList<>(Arrays.asList(null, null, null, null));
        closed.clear();
        while (closed.size() < 4) {
            int greatest = -1;
            int chosen = -1;
            List<List<Integer>> result = null;
            for (int machine = 0; machine < 4; machine++) {
                if (rows.get(machine) == null) {
                    List<List<Integer>> tried = optimized(rows, machine);
                    int value = span(schedule(tried, -1, 0));
                    if (value > greatest) {
                        greatest = value;
                        chosen = machine;
                        result = tried;
                    }
                }
            }
            rows = result;
            for (int machine : closed) {
                rows = optimized(rows, machine);
            }
            closed.add(chosen);
        }
        orders = copy(rows);
        return makespan();
    }

    public int bottleneck(int index) {
        element(in(index, 0, closed.size() - 1));
        return closed.get(index);
    }

    public int tabu(int steps, int tenure) {
        argument(in(steps, 0, 20) && in(tenure, 0, 9));
        List<List<List<Integer>>> reached = new ArrayList<>(List.of(copy(orders)));
        List<List<Integer>> history = new ArrayList<>();
        while (history.size() < steps) {
            Swap chosen = chosenSwap(history, tenure, leastOf(reached));
            if (chosen == null) {
                break;
            }
            List<Integer> row = orders.get(chosen.machine);
            row.add(chosen.position + 1, row.remove(chosen.position));
            history.add(List.of(row.get(chosen.position), row.get(chosen.position + 1)));
            reached.add(copy(orders));
        }
        tabuSteps = history.size();
        for (List<List<Integer>> rows : reached) {
            if (span(schedule(rows, -1, 0)) == leastOf(reached)) {
                orders = copy(rows);
                break;
            }
        }
        return makespan();
    }

    private int leastOf(List<List<List<Integer>>> reached) {
        int least = Integer.MAX_VALUE;
        for (List<List<Integer>> rows : reached) {
            least = Math.min(least, span(schedule(rows, -1, 0)));
        }
        return least;
    }

    /** History has a pair for each step: the operation put first and the one put second. */
    private Swap chosenSwap(List<List<Integer>> history, int tenure, int least) {
        List<Swap> allowed = new ArrayList<>();
        List<List<Integer>> latest = history.subList(Math.max(0, history.size() - tenure), history.size());
        for (List<Integer> block : criticalBlocks()) {
            for (int i = 0; i + 1 < block.size(); i++) {
                int machine = ops.get(block.get(i)).machine;
                List<Integer> row = orders.get(machine);
                int position = row.indexOf(block.get(i));
                if (row.indexOf(block.get(i + 1)) != position + 1) {
                    continue;
                }
                List<List<Integer>> changed = copy(orders);
                changed.get(machine).add(position + 1, changed.get(machine).remove(position));
                Map<Integer, Times> times = schedule(changed, -1, 0);
                boolean forbidden = latest.contains(List.of(block.get(i), block.get(i + 1))) && span(times) >= least;
                if (times.size() == ops.size() && !forbidden) {
                    allowed.add(new Swap(machine, position, span(times)));
                }
            }
        }
        allowed.sort((a, b) -> a.span != b.span ? a.span - b.span
                : a.machine != b.machine ? a.machine - b.machine : a.position - b.position);
        return allowed.isEmpty() ? null : allowed.get(0);
    }

    public int tabuSteps() {
        return tabuSteps;
    }

    public int bound(int machine) {
        index(in(machine, 0, 3));
        Map<Integer, Integer> rest = new HashMap<>();
        for (int o : orders.get(machine)) {
            rest.put(o, ops.get(o).duration);
        }
        int bound = 0;
        for (int time = 0; !rest.isEmpty(); time++) {
            int chosen = -1;
            for (int o = 0; o < ops.size(); o++) {
                if (rest.containsKey(o) && head(o) <= time && (chosen < 0 || tail(o) > tail(chosen))) {
                    chosen = o;
                }
            }
            if (chosen >= 0 && rest.merge(chosen, -1, Integer::sum) == 0) {
                rest.remove(chosen);
                bound = Math.max(bound, time + 1 + tail(chosen));
            }
        }
        return bound;
    }

    private int head(int o) {
        int head = jobs.get(ops.get(o).job).release;
        for (int other : route(ops.get(o).job)) {
            head += other < o ? ops.get(other).duration : 0;
        }
        return head;
    }

    private int tail(int o) {
        int tail = 0;
        for (int other : route(ops.get(o).job)) {
            tail += other > o ? ops.get(other).duration : 0;
        }
        return tail;
    }

    public int lowerBound() {
        int greatest = 0;
        for (int machine = 0; machine < 4; machine++) {
            greatest = Math.max(greatest, bound(machine));
        }
        for (int o = 0; o < ops.size(); o++) {
            greatest = Math.max(greatest, head(o) + ops.get(o).duration + tail(o));
        }
        return greatest;
    }

    public void append(char c) {
        state(text.length() < 80);
        text += c;
    }

    private static final String NUMBER = "(0|[1-9][0-9]{0,2})";
    private static final String OPERATION = "[0-9]\\." + NUMBER + "\\.[0-9]";
    private static final String JOB =
            NUMBER + "," + NUMBER + "," + NUMBER + ":" + OPERATION + "(/" + OPERATION + ")*";
    private static final Pattern TEXT = Pattern.compile(JOB + "(;" + JOB + ")*");

    public int read() {
        String whole = text;
        text = "";
        for (int length = 1; length <= whole.length(); length++) {
            Matcher matcher = TEXT.matcher(whole.substring(0, length));
            if (!matcher.matches() && !matcher.hitEnd()) {
                failure = List.of(2, 100 + length - 1);
                throw new IllegalArgumentException();
            }
        }
        if (!TEXT.matcher(whole).matches()) {
            failure = List.of(2, 100 + whole.length());
            throw new IllegalArgumentException();
        }
        Snapshot before = taken();
        String[] parts = whole.split(";");
        for (int i = 0; i < parts.length; i++) {
            List<Integer> why = createFrom(parts[i]);
            if (!why.isEmpty()) {
                putBack(before);
                failure = new ArrayList<>(List.of(3, 100 + i));
                failure.addAll(why);
                throw new IllegalStateException();
            }
        }
        return parts.length;
    }

    private List<Integer> createFrom(String part) {
        String[] halves = part.split(":");
        int[] head = numbers(halves[0].split(","));
        if (jobs.size() == 5) {
            return List.of(1);
        }
        try {
            addJob(head[0], head[1], head[2]);
        } catch (IllegalArgumentException e) {
            return List.of(2);
        }
        String[] operations = halves[1].split("/");
        for (int i = 0; i < operations.length; i++) {
            int[] op = numbers(operations[i].split("\\."));
            try {
                addOperation(jobs.size() - 1, op[0], op[1], op[2]);
            } catch (IndexOutOfBoundsException | IllegalArgumentException | IllegalStateException e) {
                return List.of(3, 100 + i);
            }
        }
        return List.of();
    }

    private static int[] numbers(String[] texts) {
        return Arrays.stream(texts).mapToInt(Integer::parseInt).toArray();
    }

    public int failure(int depth) {
        argument(depth >= 0);
        if (depth < failure.size()) {
            return failure.get(depth);
        }
        return depth == 0 ? 0 : -1;
    }

    private Snapshot taken() {
        int[][] setupCopy = {setups[0].clone(), setups[1].clone(), setups[2].clone()};
        return new Snapshot(new ArrayList<>(jobs), new ArrayList<>(ops), setupCopy, copy(breakdowns), copy(orders));
    }

    private void putBack(Snapshot s) {
        jobs = s.jobs;
        ops = s.ops;
        setups = s.setups;
        breakdowns = s.breakdowns;
        orders = s.orders;
    }

    public void save() {
        snapshot = taken();
    }

    public void restore() {
        state(snapshot != null);
        Snapshot kept = snapshot;
        putBack(snapshot);
        snapshot = taken();
        putBack(kept);
    }
}
