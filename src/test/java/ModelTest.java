/** Long runs of calls, right and wrong ones, on the class and on the model, whose outcomes must be the same. */
final class ModelTest {
    private static final int RUNS = 700;
    /** What an object answers after so many calls is free. */
    private static final int MOST_CALLS = 512;

    private static final Checks checks = new Checks("ModelTest");

    private final String name;
    private final LoopScheduler x = new LoopScheduler();
    private final Model m = new Model();
    private long seed;
    private int calls;

    private ModelTest(int run) {
        name = "run " + run + ", ";
        seed = run;
    }

    public static void main(String[] args) {
        for (int run = 1; run <= RUNS; run++) {
            new ModelTest(run).run();
        }
        checks.finish();
    }

    /** A number from least to greatest; the same in each test run. */
    private int pick(int least, int greatest) {
        seed = seed * 6364136223846793005L + 1442695040888963407L;
        return least + (int) ((seed >>> 33) % (greatest - least + 1));
    }

    private boolean chance(int percent) {
        return pick(1, 100) <= percent;
    }

    /** Mostly a number from least to greatest, often one of these two, sometimes one just outside or far outside. */
    private int around(int least, int greatest) {
        if (chance(85)) {
            return pick(least, greatest);
        }
        if (chance(67)) {
            return chance(50) ? least : greatest;
        }
        int[] outside = {least - 1, greatest + 1, Integer.MIN_VALUE, Integer.MAX_VALUE, 0};
        return outside[pick(0, 4)];
    }

    private int anOperation() {
        return around(0, Math.max(0, m.operationCount() - 1));
    }

    private int anInterval() {
        return m.hasSchedule() ? m.interval() : 1;
    }

    private void compare(String call, Checks.Call ours, Checks.Call models) {
        if (calls == MOST_CALLS) {
            return;
        }
        calls++;
        checks.same(name + call, Checks.outcome(ours), Checks.outcome(models));
    }

    private void run() {
        boolean lowUnits = chance(50);
        boolean full = chance(10);
        int operations = full ? 17 : pick(0, chance(20) ? 14 : 8);
        for (int i = 0; i < operations; i++) {
            addOperation();
        }
        for (int kind = 0; kind < 3 && !lowUnits; kind++) {
            setUnits();
        }
        int dependences = full ? 48 : pick(0, 2 * operations);
        for (int k = 0; k < dependences; k++) {
            addDependence();
        }
        schedule();
        while (calls < MOST_CALLS) {
            anyCall();
        }
    }

    private void anyCall() {
        switch (chance(95) ? pick(5, 29) : pick(0, 5)) {
            case 0 -> setUnits();
            case 1, 2 -> addDependence();
            case 3 -> addOperation();
            case 4 -> setDelay();
            case 5 -> schedule();
            case 6 -> compare("operationCount()", x::operationCount, m::operationCount);
            case 7 -> compare("dependenceCount()", x::dependenceCount, m::dependenceCount);
            case 8 -> compare("resourceBound()", x::resourceBound, m::resourceBound);
            case 9 -> compare("recurrenceBound()", x::recurrenceBound, m::recurrenceBound);
            case 10 -> height();
            case 11 -> compare("attempts()", x::attempts, m::attempts);
            case 12 -> compare("hasSchedule()", () -> Checks.number(x.hasSchedule()),
                    () -> Checks.number(m.hasSchedule()));
            case 13 -> compare("interval()", x::interval, m::interval);
            case 14, 15, 16 -> move();
            case 17 -> taken();
            case 18 -> live();
            case 19 -> compare("stages()", x::stages, m::stages);
            case 20 -> compare("registers()", x::registers, m::registers);
            case 21 -> compare("unrolling()", x::unrolling, m::unrolling);
            case 22 -> compare("prologue()", x::prologue, m::prologue);
            case 23 -> compare("epilogue()", x::epilogue, m::epilogue);
            case 24 -> compare("digest()", x::digest, m::digest);
            case 25, 26 -> ofAnOperation();
            default -> execution();
        }
    }

    private void setUnits() {
        int kind = around(0, 2);
        int units = around(1, 3);
        compare("setUnits(" + kind + ", " + units + ")", () -> x.setUnits(kind, units), () -> m.setUnits(kind, units));
    }

    private void addOperation() {
        int kind = around(0, 2);
        int busy = chance(60) ? 1 : around(1, 4);
        compare("addOperation(" + kind + ", " + busy + ")",
                () -> x.addOperation(kind, busy), () -> m.addOperation(kind, busy));
    }

    private void addDependence() {
        int from = anOperation();
        int to = anOperation();
        int delay = chance(70) ? pick(0, 4) : around(0, 12);
        int distance = from < to && chance(80) || chance(10) ? 0 : around(1, 3);
        compare("addDependence(" + from + ", " + to + ", " + delay + ", " + distance + ")",
                () -> x.addDependence(from, to, delay, distance), () -> m.addDependence(from, to, delay, distance));
    }

    private void setDelay() {
        int dependence = around(0, Math.max(0, m.dependenceCount() - 1));
        int delay = around(0, 12);
        compare("setDelay(" + dependence + ", " + delay + ")",
                () -> x.setDelay(dependence, delay), () -> m.setDelay(dependence, delay));
    }

    private void schedule() {
        int greatest = around(1, chance(20) ? 200 : 30);
        compare("schedule(" + greatest + ")", () -> x.schedule(greatest), () -> m.schedule(greatest));
        compare("digest()", x::digest, m::digest);
    }

    private void height() {
        int i = anOperation();
        int interval = around(1, chance(20) ? 200 : 30);
        compare("height(" + i + ", " + interval + ")", () -> x.height(i, interval), () -> m.height(i, interval));
    }

    private void move() {
        int i = anOperation();
        boolean near = chance(80) && m.hasSchedule() && i >= 0 && i < m.operationCount();
        int time = near ? Math.max(0, m.time(i) + pick(-3, 3)) : around(0, 1000);
        compare("move(" + i + ", " + time + ")",
                () -> Checks.number(x.move(i, time)), () -> Checks.number(m.move(i, time)));
        compare("digest()", x::digest, m::digest);
    }

    private void taken() {
        int row = around(0, anInterval() - 1);
        int kind = around(0, 2);
        compare("taken(" + row + ", " + kind + ")", () -> x.taken(row, kind), () -> m.taken(row, kind));
    }

    private void live() {
        int row = around(0, anInterval() - 1);
        compare("live(" + row + ")", () -> x.live(row), () -> m.live(row));
    }

    private void ofAnOperation() {
        int i = anOperation();
        compare("time(" + i + ")", () -> x.time(i), () -> m.time(i));
        compare("freedom(" + i + ")", () -> x.freedom(i), () -> m.freedom(i));
        compare("lifetime(" + i + ")", () -> x.lifetime(i), () -> m.lifetime(i));
        compare("copies(" + i + ")", () -> x.copies(i), () -> m.copies(i));
    }

    private void execution() {
        int n = around(1, chance(20) ? 1000 : 8);
        int cycle = around(0, 10 * anInterval());
        int index = around(0, 3);
        compare("cycles(" + n + ")", () -> x.cycles(n), () -> m.cycles(n));
        compare("issued(" + n + ", " + cycle + ")", () -> x.issued(n, cycle), () -> m.issued(n, cycle));
        compare("issue(" + n + ", " + cycle + ", " + index + ")",
                () -> x.issue(n, cycle, index), () -> m.issue(n, cycle, index));
    }
}
