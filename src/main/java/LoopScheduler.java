import java.util.Arrays;

/** A modulo scheduler for loops. */
public final class LoopScheduler {
    private static final int KINDS = 3;
    private static final int MOST_UNITS = 3;
    private static final int MOST_BUSY = 4;
    private static final int MOST_OPERATIONS = 14;
    private static final int MOST_DEPENDENCES = 40;
    private static final int MOST_DELAY = 12;
    private static final int MOST_DISTANCE = 3;
    private static final int MOST_INTERVAL = 200;
    private static final int MOST_TIME = 1000;
    private static final int MOST_ITERATIONS = 1000;
    private static final int MOST_UNROLLING = 1000000;
    private static final int NONE = -1;

    private final Loop loop;
    private final Timetable table;
    private int attemptCount;

    public LoopScheduler() {
        loop = new Loop();
        table = new Timetable(loop);
    }

    public int setUnits(int kind, int units) throws IndexOutOfBoundsException, IllegalArgumentException {
        requireKind(kind);
        if (units < 1 || units > MOST_UNITS) {
            throw new IllegalArgumentException("units is not 1 to 3");
        }
        int before = loop.units[kind];
        loop.units[kind] = units;
        table.drop();
        return before;
    }

    public int addOperation(int kind, int busy) throws IllegalArgumentException, IllegalStateException {
        if (!isKind(kind)) {
            throw new IllegalArgumentException("kind is not 0 to 2");
        }
        if (busy < 1 || busy > MOST_BUSY) {
            throw new IllegalArgumentException("busy is not 1 to 4");
        }
        if (loop.operations >= MOST_OPERATIONS) {
            throw new IllegalStateException("there are 14 operations");
        }
        table.drop();
        return loop.appendOperation(kind, busy);
    }

    public int addDependence(int from, int to, int delay, int distance)
            throws IndexOutOfBoundsException, IllegalArgumentException, IllegalStateException {
        requireOperation(from);
        requireOperation(to);
        requireDelay(delay);
        if (distance < 0 || distance > MOST_DISTANCE) {
            throw new IllegalArgumentException("distance is not 0 to 3");
        }
        if (loop.dependences >= MOST_DEPENDENCES) {
            throw new IllegalStateException("there are 40 dependences");
        }
        table.drop();
        return loop.appendDependence(from, to, delay, distance);
    }

    public int setDelay(int dependence, int delay) throws IndexOutOfBoundsException, IllegalArgumentException {
        if (dependence < 0 || dependence >= loop.dependences) {
            throw new IndexOutOfBoundsException("no such dependence");
        }
        requireDelay(delay);
        int before = loop.delays[dependence];
        loop.delays[dependence] = delay;
        table.drop();
        return before;
    }

    public int operationCount() {
        return loop.operations;
    }

    public int dependenceCount() {
        return loop.dependences;
    }

    public int resourceBound() {
        return loop.leastIntervalOfResources();
    }

    public int recurrenceBound() {
        return loop.leastIntervalOfRecurrences();
    }

    public int height(int i, int interval) throws IndexOutOfBoundsException, IllegalArgumentException {
        requireOperation(i);
        int bound = loop.leastIntervalOfRecurrences();
        if (bound == NONE || interval < bound || interval > MOST_INTERVAL) {
            throw new IllegalArgumentException("interval is not recurrenceBound() to 200");
        }
        loop.findHeights(interval);
        return loop.heights[i];
    }

    public int schedule(int greatest) throws IllegalArgumentException {
        if (greatest < 1 || greatest > MOST_INTERVAL) {
            throw new IllegalArgumentException("greatest is not 1 to 200");
        }
        table.drop();
        attemptCount = 0;
        int recurrences = loop.leastIntervalOfRecurrences();
        if (recurrences == NONE) {
            return NONE;
        }
        int least = Math.max(recurrences, loop.leastIntervalOfResources());
        for (int interval = least; interval <= greatest; interval++) {
            attemptCount++;
            if (table.attempt(interval)) {
                return interval;
            }
        }
        return NONE;
    }

    public int attempts() {
        return attemptCount;
    }

    public boolean hasSchedule() {
        return table.interval > 0;
    }

    public int interval() throws IllegalStateException {
        requireSchedule();
        return table.interval;
    }

    public int time(int i) throws IndexOutOfBoundsException, IllegalStateException {
        requireOperation(i);
        requireSchedule();
        return table.times[i];
    }

    public boolean move(int i, int time)
            throws IndexOutOfBoundsException, IllegalArgumentException, IllegalStateException {
        requireOperation(i);
        if (time < 0 || time > MOST_TIME) {
            throw new IllegalArgumentException("time is not 0 to 1000");
        }
        requireSchedule();
        return table.replace(i, time);
    }

    public int freedom(int i) throws IndexOutOfBoundsException, IllegalStateException {
        requireOperation(i);
        requireSchedule();
        return table.countPlaces(i);
    }

    public int stages() throws IllegalStateException {
        requireSchedule();
        return table.countStages();
    }

    public int taken(int row, int kind)
            throws IndexOutOfBoundsException, IllegalStateException, IllegalArgumentException {
        requireKind(kind);
        requireSchedule();
        requireRow(row);
        return table.takenUnits[kind][row];
    }

    public int lifetime(int i) throws IndexOutOfBoundsException, IllegalStateException {
        requireOperation(i);
        requireSchedule();
        table.findLifetimes();
        return table.lifetimes[i];
    }

    public int live(int row) throws IllegalStateException, IllegalArgumentException {
        requireSchedule();
        requireRow(row);
        table.findLifetimes();
        return table.countLive(row);
    }

    public int registers() throws IllegalStateException {
        requireSchedule();
        table.findLifetimes();
        int most = 0;
        for (int row = 0; row < table.interval; row++) {
            most = Math.max(most, table.countLive(row));
        }
        return most;
    }

    public int copies(int i) throws IndexOutOfBoundsException, IllegalStateException {
        requireOperation(i);
        requireSchedule();
        table.findLifetimes();
        return table.countCopies(i);
    }

    public int unrolling() throws IllegalStateException {
        requireSchedule();
        table.findLifetimes();
        long multiple = 1;
        for (int i = 0; i < loop.operations; i++) {
            multiple = leastCommonMultiple(multiple, table.countCopies(i));
            if (multiple > MOST_UNROLLING) {
                return MOST_UNROLLING;
            }
        }
        return (int) multiple;
    }

    public int cycles(int n) throws IllegalStateException, IllegalArgumentException {
        requireSchedule();
        requireIterations(n);
        if (loop.operations == 0) {
            return 0;
        }
        return table.greatestTime() + (n - 1) * table.interval + 1;
    }

    public int issued(int n, int cycle) throws IllegalStateException, IllegalArgumentException {
        requireSchedule();
        requireIterations(n);
        requireCycle(cycle);
        int count = 0;
        for (int i = 0; i < loop.operations; i++) {
            if (isIssued(i, n, cycle)) {
                count++;
            }
        }
        return count;
    }

    public int issue(int n, int cycle, int index)
            throws IllegalStateException, IllegalArgumentException, IndexOutOfBoundsException {
        requireSchedule();
        requireIterations(n);
        requireCycle(cycle);
        for (int i = 0; i < loop.operations; i++) {
            if (isIssued(i, n, cycle) && countIssuedBefore(i, n, cycle) == index) {
                return issueNumber(i, cycle);
            }
        }
        throw new IndexOutOfBoundsException("no such index");
    }

    public int prologue() throws IllegalStateException {
        requireSchedule();
        int last = table.countStages() - 1;
        int count = 0;
        for (int i = 0; i < loop.operations; i++) {
            // The 1000 iterations are always enough: no time is above 1000, so there are at most 1001 stages.
            count += last - table.stageOf(i);
        }
        return count;
    }

    public int epilogue() throws IllegalStateException {
        requireSchedule();
        int count = 0;
        for (int i = 0; i < loop.operations; i++) {
            // An operation of stage s falls behind those cycles in just the last s iterations.
            count += table.stageOf(i);
        }
        return count;
    }

    public long digest() {
        long d = 79;
        for (int kind = 0; kind < KINDS; kind++) {
            d = digestWith(d, loop.units[kind]);
        }
        d = digestWith(d, loop.operations);
        for (int i = 0; i < loop.operations; i++) {
            d = digestWith(digestWith(d, loop.kinds[i]), loop.busy[i]);
        }
        d = digestWith(d, loop.dependences);
        for (int k = 0; k < loop.dependences; k++) {
            d = digestWith(digestWith(d, loop.sources[k]), loop.targets[k]);
            d = digestWith(digestWith(d, loop.delays[k]), loop.distances[k]);
        }
        d = digestWith(d, table.interval);
        if (table.interval > 0) {
            for (int i = 0; i < loop.operations; i++) {
                d = digestWith(d, table.times[i]);
            }
        }
        return d;
    }

    private static long digestWith(long d, int x) {
        return d * 31 + x;
    }

    private boolean isIssued(int operation, int n, int cycle) {
        int waited = cycle - table.times[operation];
        return waited >= 0 && waited % table.interval == 0 && waited / table.interval < n;
    }

    /** The number that issue answers for an operation that is issued in the cycle: it ascends in issue's order. */
    private int issueNumber(int operation, int cycle) {
        int iteration = (cycle - table.times[operation]) / table.interval;
        return MOST_OPERATIONS * iteration + operation;
    }

    private int countIssuedBefore(int operation, int n, int cycle) {
        int number = issueNumber(operation, cycle);
        int count = 0;
        for (int i = 0; i < loop.operations; i++) {
            if (isIssued(i, n, cycle) && issueNumber(i, cycle) < number) {
                count++;
            }
        }
        return count;
    }

    private static long leastCommonMultiple(long a, int b) {
        for (int factor = 1; factor < b; factor++) {
            if (a * factor % b == 0) {
                return a * factor;
            }
        }
        return a * b;
    }

    private static boolean isKind(int kind) {
        return kind >= 0 && kind < KINDS;
    }

    private static void requireKind(int kind) {
        if (!isKind(kind)) {
            throw new IndexOutOfBoundsException("kind is not 0 to 2");
        }
    }

    private static void requireDelay(int delay) {
        if (delay < 0 || delay > MOST_DELAY) {
            throw new IllegalArgumentException("delay is not 0 to 12");
        }
    }

    private static void requireIterations(int n) {
        if (n < 1 || n > MOST_ITERATIONS) {
            throw new IllegalArgumentException("n is not 1 to 1000");
        }
    }

    private static void requireCycle(int cycle) {
        if (cycle < 0) {
            throw new IllegalArgumentException("cycle is negative");
        }
    }

    private void requireOperation(int i) {
        if (i < 0 || i >= loop.operations) {
            throw new IndexOutOfBoundsException("no such operation");
        }
    }

    private void requireSchedule() {
        if (table.interval < 1) {
            throw new IllegalStateException("there is no schedule");
        }
    }

    private void requireRow(int row) {
        if (row < 0 || row >= table.interval) {
            throw new IllegalArgumentException("row is not 0 to the interval minus 1");
        }
    }

    /** The units, operations and dependences, and what follows from them alone. */
    private static final class Loop {
        final int[] units = new int[KINDS];
        final int[] kinds = new int[MOST_OPERATIONS];
        final int[] busy = new int[MOST_OPERATIONS];
        final int[] sources = new int[MOST_DEPENDENCES];
        final int[] targets = new int[MOST_DEPENDENCES];
        final int[] delays = new int[MOST_DEPENDENCES];
        final int[] distances = new int[MOST_DEPENDENCES];
        final int[] heights = new int[MOST_OPERATIONS];
        int operations;
        int dependences;

        Loop() {
            for (int kind = 0; kind < KINDS; kind++) {
                units[kind] = 1;
            }
        }

        int appendOperation(int kind, int cycles) {
            kinds[operations] = kind;
            busy[operations] = cycles;
            operations++;
            return operations - 1;
        }

        int appendDependence(int from, int to, int delay, int distance) {
            sources[dependences] = from;
            targets[dependences] = to;
            delays[dependences] = delay;
            distances[dependences] = distance;
            dependences++;
            return dependences - 1;
        }

        int leastIntervalOfResources() {
            int least = 1;
            for (int kind = 0; kind < KINDS; kind++) {
                least = Math.max(least, (busyCycles(kind) + units[kind] - 1) / units[kind]);
            }
            return least;
        }

        private int busyCycles(int kind) {
            int sum = 0;
            for (int i = 0; i < operations; i++) {
                if (kinds[i] == kind) {
                    sum += busy[i];
                }
            }
            return sum;
        }

        int leastIntervalOfRecurrences() {
            // A longer interval makes no sum greater, so the greatest one that is too short is found by halving.
            int tooShort = 0;
            for (int step = 128; step > 0; step /= 2) {
                if (!findHeights(tooShort + step)) {
                    tooShort += step;
                }
            }
            return tooShort < MOST_INTERVAL ? tooShort + 1 : NONE;
        }

        /** Answers false, and leaves no heights, if a closed way has a sum greater than 0. */
        boolean findHeights(int interval) {
            Arrays.fill(heights, 0);
            // A way that repeats no operation is raised in fewer rounds than there are operations.
            for (int round = 0; round <= operations; round++) {
                if (!raiseHeights(interval)) {
                    return true;
                }
            }
            return false;
        }

        private boolean raiseHeights(int interval) {
            boolean raised = false;
            for (int k = 0; k < dependences; k++) {
                int height = heights[targets[k]] + delays[k] - interval * distances[k];
                if (height > heights[sources[k]]) {
                    heights[sources[k]] = height;
                    raised = true;
                }
            }
            return raised;
        }
    }

    /** The schedule, or an attempt at one: times and the units that are taken. */
    private static final class Timetable {
        private final Loop loop;
        final int[] times = new int[MOST_OPERATIONS];
        final int[][] takenUnits = new int[KINDS][MOST_INTERVAL];
        final int[] lifetimes = new int[MOST_OPERATIONS];
        int interval;

        Timetable(Loop loop) {
            this.loop = loop;
        }

        /** The interval is 0 while there is no schedule. */
        void drop() {
            interval = 0;
        }

        boolean attempt(int length) {
            interval = length;
            loop.findHeights(length);
            Arrays.fill(times, NONE);
            for (int kind = 0; kind < KINDS; kind++) {
                Arrays.fill(takenUnits[kind], 0);
            }
            for (int count = 0; count < loop.operations; count++) {
                int next = highestUnplaced();
                if (next == NONE || !placeAtFirst(next)) {
                    drop();
                    return false;
                }
            }
            return true;
        }

        private int highestUnplaced() {
            int highest = NONE;
            for (int i = 0; i < loop.operations; i++) {
                if (times[i] == NONE && (highest == NONE || loop.heights[i] > loop.heights[highest])) {
                    highest = i;
                }
            }
            return highest;
        }

        private boolean placeAtFirst(int operation) {
            int earliest = earliestAllowed(operation);
            int last = latestAllowed(operation, earliest + interval - 1);
            for (int time = earliest; time <= last; time++) {
                if (hasUnits(operation, time)) {
                    place(operation, time);
                    return true;
                }
            }
            return false;
        }

        private int earliestAllowed(int operation) {
            int earliest = 0;
            for (int k = 0; k < loop.dependences; k++) {
                int source = loop.sources[k];
                if (loop.targets[k] == operation && times[source] != NONE) {
                    earliest = Math.max(earliest, times[source] + loop.delays[k] - interval * loop.distances[k]);
                }
            }
            return earliest;
        }

        /** At most the limit, which stands where no dependence asks for less. */
        private int latestAllowed(int operation, int limit) {
            int latest = limit;
            for (int k = 0; k < loop.dependences; k++) {
                int target = loop.targets[k];
                if (loop.sources[k] == operation && times[target] != NONE) {
                    latest = Math.min(latest, times[target] - loop.delays[k] + interval * loop.distances[k]);
                }
            }
            return latest;
        }

        private boolean hasUnits(int operation, int time) {
            int kind = loop.kinds[operation];
            for (int cycle = 0; cycle < loop.busy[operation]; cycle++) {
                // An operation that is busy longer than the interval comes round to rows that it takes itself.
                int others = takenUnits[kind][(time + cycle) % interval];
                if (others + cycle / interval >= loop.units[kind]) {
                    return false;
                }
            }
            return true;
        }

        private void place(int operation, int time) {
            times[operation] = time;
            changeTaken(operation, time, 1);
        }

        private void lift(int operation) {
            changeTaken(operation, times[operation], -1);
            times[operation] = NONE;
        }

        private void changeTaken(int operation, int time, int change) {
            int kind = loop.kinds[operation];
            for (int cycle = 0; cycle < loop.busy[operation]; cycle++) {
                takenUnits[kind][(time + cycle) % interval] += change;
            }
        }

        boolean replace(int operation, int time) {
            int before = times[operation];
            lift(operation);
            boolean valid = time >= earliestAllowed(operation) && time <= latestAllowed(operation, MOST_TIME)
                    && hasUnits(operation, time);
            place(operation, valid ? time : before);
            return valid;
        }

        int countPlaces(int operation) {
            int before = times[operation];
            lift(operation);
            int last = latestAllowed(operation, MOST_TIME);
            int count = 0;
            for (int time = earliestAllowed(operation); time <= last; time++) {
                if (hasUnits(operation, time)) {
                    count++;
                }
            }
            place(operation, before);
            return count;
        }

        int greatestTime() {
            int greatest = 0;
            for (int i = 0; i < loop.operations; i++) {
                greatest = Math.max(greatest, times[i]);
            }
            return greatest;
        }

        int countStages() {
            return loop.operations == 0 ? 0 : greatestTime() / interval + 1;
        }

        int stageOf(int operation) {
            return times[operation] / interval;
        }

        void findLifetimes() {
            Arrays.fill(lifetimes, 0);
            for (int k = 0; k < loop.dependences; k++) {
                int source = loop.sources[k];
                int use = times[loop.targets[k]] + interval * loop.distances[k];
                lifetimes[source] = Math.max(lifetimes[source], use - times[source]);
            }
        }

        int countLive(int row) {
            int count = 0;
            for (int i = 0; i < loop.operations; i++) {
                int rowsAfterBegin = Math.floorMod(row - times[i], interval);
                count += lifetimes[i] / interval;
                if (rowsAfterBegin < lifetimes[i] % interval) {
                    count++;
                }
            }
            return count;
        }

        int countCopies(int operation) {
            return Math.max(1, (lifetimes[operation] + interval - 1) / interval);
        }
    }
}
