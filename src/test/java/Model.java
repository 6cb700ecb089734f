import java.util.ArrayList;
import java.util.List;

/** The document's words done one by one, slow and plain, to compare the class with. */
final class Model {
    private record Operation(int kind, int busy) {
    }

    private record Dependence(int from, int to, int delay, int distance) {
    }

    private final int[] units = {1, 1, 1};
    private final List<Operation> operations = new ArrayList<>();
    private final List<Dependence> dependences = new ArrayList<>();
    private int attempts;
    /** Null while there is no schedule. */
    private int[] times;
    private int interval;

    private static void index(boolean holds) {
        if (!holds) {
            throw new IndexOutOfBoundsException();
        }
    }

    private static void argument(boolean holds) {
        if (!holds) {
            throw new IllegalArgumentException();
        }
    }

    private static void state(boolean holds) {
        if (!holds) {
            throw new IllegalStateException();
        }
    }

    private void operation(int i) {
        index(0 <= i && i < operations.size());
    }

    private void scheduled() {
        state(times != null);
    }

    int setUnits(int kind, int number) {
        index(kind == 0 || kind == 1 || kind == 2);
        argument(number == 1 || number == 2 || number == 3);
        int before = units[kind];
        units[kind] = number;
        times = null;
        return before;
    }

    int addOperation(int kind, int busy) {
        argument(kind == 0 || kind == 1 || kind == 2);
        argument(busy == 1 || busy == 2 || busy == 3 || busy == 4);
        state(operations.size() != 14);
        operations.add(new Operation(kind, busy));
        times = null;
        return operations.size() - 1;
    }

    int addDependence(int from, int to, int delay, int distance) {
        operation(from);
        operation(to);
        argument(0 <= delay && delay <= 12);
        argument(0 <= distance && distance <= 3);
        state(dependences.size() != 40);
        dependences.add(new Dependence(from, to, delay, distance));
        times = null;
        return dependences.size() - 1;
    }

    int setDelay(int dependence, int delay) {
        index(0 <= dependence && dependence < dependences.size());
        argument(0 <= delay && delay <= 12);
        Dependence old = dependences.get(dependence);
        dependences.set(dependence, new Dependence(old.from, old.to, delay, old.distance));
        times = null;
        return old.delay;
    }

    int operationCount() {
        return operations.size();
    }

    int dependenceCount() {
        return dependences.size();
    }

    int resourceBound() {
        int bound = 1;
        for (int kind = 0; kind < 3; kind++) {
            int sum = 0;
            for (Operation o : operations) {
                sum += o.kind == kind ? o.busy : 0;
            }
            int cycles = 0;
            while (cycles * units[kind] < sum) {
                cycles++;
            }
            bound = Math.max(bound, cycles);
        }
        return bound;
    }

    int recurrenceBound() {
        for (int t = 1; t <= 200; t++) {
            boolean closedAboveZero = false;
            for (int i = 0; i < operations.size(); i++) {
                closedAboveZero |= greatestSum(i, t, true) > 0;
            }
            if (!closedAboveZero) {
                return t;
            }
        }
        return -1;
    }

    /** The greatest sum of a way from i of at most as many dependences as there are operations; 0 if none is greater. */
    private int greatestSum(int i, int t, boolean closed) {
        Integer[] sums = new Integer[operations.size()];
        sums[i] = 0;
        int greatest = 0;
        for (int length = 1; length <= operations.size(); length++) {
            Integer[] next = new Integer[operations.size()];
            for (Dependence d : dependences) {
                if (sums[d.from] != null) {
                    int sum = sums[d.from] + d.delay - t * d.distance;
                    next[d.to] = next[d.to] == null ? sum : Math.max(sum, next[d.to]);
                    greatest = closed && d.to != i ? greatest : Math.max(greatest, sum);
                }
            }
            sums = next;
        }
        return greatest;
    }

    int height(int i, int t) {
        operation(i);
        int bound = recurrenceBound();
        argument(bound != -1 && bound <= t && t <= 200);
        return greatestSum(i, t, false);
    }

    int schedule(int greatest) {
        argument(1 <= greatest && greatest <= 200);
        times = null;
        attempts = 0;
        int recurrence = recurrenceBound();
        for (int t = Math.max(recurrence, resourceBound()); recurrence != -1 && t <= greatest; t++) {
            attempts++;
            int[] found = attempt(t);
            if (found != null) {
                times = found;
                interval = t;
                return t;
            }
        }
        return -1;
    }

    /** The times, or null if the attempt fails; -1 is the time of what is not placed. */
    private int[] attempt(int t) {
        List<Integer> order = new ArrayList<>();
        for (int i = 0; i < operations.size(); i++) {
            int at = 0;
            while (at < order.size() && greatestSum(order.get(at), t, false) >= greatestSum(i, t, false)) {
                at++;
            }
            order.add(at, i);
        }
        int[] found = new int[operations.size()];
        java.util.Arrays.fill(found, -1);
        for (int i : order) {
            int e = 0;
            long l = Long.MAX_VALUE;
            for (Dependence d : dependences) {
                if (d.to == i && found[d.from] >= 0) {
                    e = Math.max(e, found[d.from] + d.delay - t * d.distance);
                }
                if (d.from == i && found[d.to] >= 0) {
                    l = Math.min(l, found[d.to] - d.delay + t * d.distance);
                }
            }
            boolean placed = false;
            for (int time = e; !placed && time < e + t && time <= l; time++) {
                found[i] = time;
                placed = unitsSuffice(found, t);
            }
            if (!placed) {
                return null;
            }
        }
        return found;
    }

    private int[][] takenIn(int[] at, int t) {
        int[][] taken = new int[t][3];
        for (int i = 0; i < at.length; i++) {
            for (int c = 0; at[i] >= 0 && c < operations.get(i).busy; c++) {
                taken[(at[i] + c) % t][operations.get(i).kind]++;
            }
        }
        return taken;
    }

    private boolean unitsSuffice(int[] at, int t) {
        for (int[] row : takenIn(at, t)) {
            for (int kind = 0; kind < 3; kind++) {
                if (row[kind] > units[kind]) {
                    return false;
                }
            }
        }
        return true;
    }

    private boolean valid(int[] at) {
        for (Dependence d : dependences) {
            if (at[d.to] + interval * d.distance < at[d.from] + d.delay) {
                return false;
            }
        }
        return unitsSuffice(at, interval);
    }

    int attempts() {
        return attempts;
    }

    boolean hasSchedule() {
        return times != null;
    }

    int interval() {
        scheduled();
        return interval;
    }

    int time(int i) {
        operation(i);
        scheduled();
        return times[i];
    }

    boolean move(int i, int time) {
        operation(i);
        argument(0 <= time && time <= 1000);
        scheduled();
        int[] moved = times.clone();
        moved[i] = time;
        if (valid(moved)) {
            times = moved;
        }
        return times[i] == time;
    }

    int freedom(int i) {
        operation(i);
        scheduled();
        int count = 0;
        int[] moved = times.clone();
        for (moved[i] = 0; moved[i] <= 1000; moved[i]++) {
            count += valid(moved) ? 1 : 0;
        }
        return count;
    }

    int stages() {
        scheduled();
        int stages = 0;
        for (int time : times) {
            stages = Math.max(stages, time / interval + 1);
        }
        return stages;
    }

    int taken(int row, int kind) {
        index(kind == 0 || kind == 1 || kind == 2);
        scheduled();
        argument(0 <= row && row < interval);
        return takenIn(times, interval)[row][kind];
    }

    int lifetime(int i) {
        operation(i);
        scheduled();
        int end = times[i];
        for (Dependence d : dependences) {
            end = d.from == i ? Math.max(end, times[d.to] + interval * d.distance) : end;
        }
        return end - times[i];
    }

    int live(int row) {
        scheduled();
        argument(0 <= row && row < interval);
        int count = 0;
        for (int i = 0; i < times.length; i++) {
            int end = times[i] + lifetime(i);
            for (int c = times[i]; c < end; c++) {
                count += c % interval == row ? 1 : 0;
            }
        }
        return count;
    }

    int registers() {
        scheduled();
        int most = 0;
        for (int row = 0; row < interval; row++) {
            most = Math.max(most, live(row));
        }
        return most;
    }

    int copies(int i) {
        operation(i);
        scheduled();
        int copies = 1;
        while (copies * interval < lifetime(i)) {
            copies++;
        }
        return copies;
    }

    int unrolling() {
        scheduled();
        java.math.BigInteger multiple = java.math.BigInteger.ONE;
        for (int i = 0; i < times.length; i++) {
            java.math.BigInteger copies = java.math.BigInteger.valueOf(copies(i));
            multiple = multiple.multiply(copies).divide(multiple.gcd(copies));
        }
        return multiple.min(java.math.BigInteger.valueOf(1000000)).intValue();
    }

    /** All that is issued in an execution, in the order of iterations and of operations: cycles and numbers. */
    private List<int[]> execution(int n) {
        List<int[]> all = new ArrayList<>();
        for (int k = 0; k < n; k++) {
            for (int i = 0; i < times.length; i++) {
                all.add(new int[] {times[i] + k * interval, 14 * k + i});
            }
        }
        return all;
    }

    private List<Integer> issuedIn(int n, int cycle) {
        List<Integer> numbers = new ArrayList<>();
        for (int[] one : execution(n)) {
            if (one[0] == cycle) {
                numbers.add(one[1]);
            }
        }
        return numbers;
    }

    int cycles(int n) {
        scheduled();
        argument(1 <= n && n <= 1000);
        int behind = 0;
        for (int[] one : execution(n)) {
            behind = Math.max(behind, one[0] + 1);
        }
        return behind;
    }

    int issued(int n, int cycle) {
        scheduled();
        argument(1 <= n && n <= 1000 && cycle >= 0);
        return issuedIn(n, cycle).size();
    }

    int issue(int n, int cycle, int index) {
        scheduled();
        argument(1 <= n && n <= 1000 && cycle >= 0);
        List<Integer> numbers = issuedIn(n, cycle);
        index(0 <= index && index < numbers.size());
        return numbers.get(index);
    }

    int prologue() {
        scheduled();
        int count = 0;
        for (int[] one : execution(1000)) {
            count += one[0] < (stages() - 1) * interval ? 1 : 0;
        }
        return count;
    }

    int epilogue() {
        scheduled();
        int count = 0;
        for (int[] one : execution(stages())) {
            count += one[0] >= stages() * interval ? 1 : 0;
        }
        return count;
    }

    long digest() {
        List<Integer> numbers = new ArrayList<>(List.of(units[0], units[1], units[2], operations.size()));
        for (Operation o : operations) {
            numbers.addAll(List.of(o.kind, o.busy));
        }
        numbers.add(dependences.size());
        for (Dependence d : dependences) {
            numbers.addAll(List.of(d.from, d.to, d.delay, d.distance));
        }
        numbers.add(times == null ? 0 : interval);
        for (int i = 0; times != null && i < times.length; i++) {
            numbers.add(times[i]);
        }
        long d = 79;
        for (int x : numbers) {
            d = d * 31 + x;
        }
        return d;
    }
}
