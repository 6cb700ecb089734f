/**
 * Each sentence "Throws .. if ..": the arguments next to what is allowed and far from it, and the states without a
 * schedule. Each refused call must change nothing. The order of exceptions is tested in ExceptionOrderTest.
 */
final class RefusalTest {
    private static final Class<IndexOutOfBoundsException> INDEX = IndexOutOfBoundsException.class;
    private static final Class<IllegalArgumentException> ARGUMENT = IllegalArgumentException.class;
    private static final Class<IllegalStateException> STATE = IllegalStateException.class;
    private static final int LEAST = Integer.MIN_VALUE;
    private static final int GREATEST = Integer.MAX_VALUE;
    private static final int[] NO_KINDS = {-1, 3, LEAST, GREATEST};
    private static final int[] NO_COUNTS = {0, 1001, -1, LEAST, GREATEST};
    private static final int[] NEGATIVES = {-1, -2, -1000, LEAST};

    private static final Checks checks = new Checks("RefusalTest");

    public static void main(String[] args) {
        setUnits();
        addOperation();
        the15thOperation();
        addDependenceOfNoOperation();
        addDependence();
        the41stDependence();
        setDelay();
        heightOfNoOperation();
        heightAtNoInterval();
        heightWithoutABound();
        schedule();
        withoutASchedule();
        withoutOperations();
        ofNoOperation();
        moveToNoTime();
        takenOfNoKind();
        rows();
        cycles();
        issued();
        issue();
        issueOfNoIndex();
        checks.finish();
    }

    private static void setUnits() {
        for (int kind : NO_KINDS) {
            checks.refuses("setUnits of the kind " + kind, INDEX, Samples::scheduledRing, x -> x.setUnits(kind, 2));
            checks.refuses("setUnits of a new object", INDEX, LoopScheduler::new, x -> x.setUnits(kind, 1));
        }
        for (int units : new int[] {0, 4, -1, LEAST, GREATEST}) {
            for (int kind = 0; kind < 3; kind++) {
                int allowed = kind;
                checks.refuses("setUnits to " + units, ARGUMENT, Samples::scheduledRing,
                        x -> x.setUnits(allowed, units));
            }
        }
    }

    private static void addOperation() {
        for (int kind : NO_KINDS) {
            checks.refuses("addOperation of the kind " + kind, ARGUMENT, Samples::scheduledRing,
                    x -> x.addOperation(kind, 1));
            checks.refuses("the first one", ARGUMENT, LoopScheduler::new, x -> x.addOperation(kind, 4));
        }
        for (int busy : new int[] {0, 5, -1, LEAST, GREATEST}) {
            checks.refuses("addOperation, busy for " + busy, ARGUMENT, Samples::scheduledRing,
                    x -> x.addOperation(0, busy));
            checks.refuses("the first one", ARGUMENT, LoopScheduler::new, x -> x.addOperation(2, busy));
        }
    }

    private static void the15thOperation() {
        for (int kind = 0; kind < 3; kind++) {
            int allowed = kind;
            checks.refuses("the 15th operation", STATE, Samples::scheduledFullLoop, x -> x.addOperation(allowed, 1));
            checks.refuses("the 15th, no schedule", STATE, Samples::fullLoop, x -> x.addOperation(allowed, 4));
        }
    }

    private static void addDependenceOfNoOperation() {
        for (int i : new int[] {-1, 4, 13, 14, LEAST, GREATEST}) {
            checks.refuses("from " + i, INDEX, Samples::scheduledRing, x -> x.addDependence(i, 0, 1, 1));
            checks.refuses("to " + i, INDEX, Samples::scheduledRing, x -> x.addDependence(0, i, 1, 1));
            checks.refuses("from and to " + i, INDEX, Samples::scheduledRing, x -> x.addDependence(i, i, 1, 1));
        }
        Checks.Maker fourteen = () -> Samples.operations(14, 0, 1);
        for (int i : new int[] {-1, 14}) {
            checks.refuses("from " + i + " of 14", INDEX, fourteen, x -> x.addDependence(i, 13, 0, 0));
            checks.refuses("to " + i + " of 14", INDEX, fourteen, x -> x.addDependence(13, i, 0, 0));
        }
        checks.refuses("no operations at all", INDEX, LoopScheduler::new, x -> x.addDependence(0, 0, 0, 0));
    }

    private static void addDependence() {
        for (int delay : new int[] {-1, 13, LEAST, GREATEST}) {
            checks.refuses("the delay " + delay, ARGUMENT, Samples::scheduledRing,
                    x -> x.addDependence(0, 1, delay, 0));
        }
        for (int distance : new int[] {-1, 4, LEAST, GREATEST}) {
            checks.refuses("the distance " + distance, ARGUMENT, Samples::scheduledRing,
                    x -> x.addDependence(3, 3, 0, distance));
        }
    }

    private static void the41stDependence() {
        checks.refuses("the 41st dependence", STATE, Samples::scheduledFullLoop, x -> x.addDependence(0, 1, 1, 0));
        checks.refuses("the 41st, no schedule", STATE, Samples::fullLoop, x -> x.addDependence(13, 13, 12, 3));
    }

    private static void setDelay() {
        for (int dependence : new int[] {-1, 4, 39, 40, LEAST, GREATEST}) {
            checks.refuses("setDelay of " + dependence, INDEX, Samples::scheduledRing, x -> x.setDelay(dependence, 1));
        }
        checks.refuses("setDelay of 40 of 40", INDEX, Samples::scheduledFullLoop, x -> x.setDelay(40, 1));
        checks.refuses("setDelay of -1 of 40", INDEX, Samples::scheduledFullLoop, x -> x.setDelay(-1, 1));
        checks.refuses("setDelay without dependences", INDEX, () -> Samples.operations(2, 0, 1), x -> x.setDelay(0, 0));
        for (int delay : new int[] {-1, 13, LEAST, GREATEST}) {
            checks.refuses("setDelay to " + delay, ARGUMENT, Samples::scheduledRing, x -> x.setDelay(0, delay));
            checks.refuses("the last to " + delay, ARGUMENT, Samples::scheduledFullLoop, x -> x.setDelay(39, delay));
        }
    }

    private static void heightOfNoOperation() {
        for (int i : new int[] {-1, 4, 13, 14, LEAST, GREATEST}) {
            checks.refuses("height of " + i, INDEX, Samples::scheduledRing, x -> x.height(i, 4));
        }
        checks.refuses("height of 14 of 14", INDEX, Samples::fullLoop, x -> x.height(14, 1));
        checks.refuses("height of -1 of 14", INDEX, Samples::fullLoop, x -> x.height(-1, 1));
        checks.refuses("height without operations", INDEX, LoopScheduler::new, x -> x.height(0, 1));
    }

    /** The ring's recurrence bound is 4, the full loop's is 1. */
    private static void heightAtNoInterval() {
        for (int interval : new int[] {3, 1, 0, -1, 201, LEAST, GREATEST}) {
            checks.refuses("height at " + interval, ARGUMENT, Samples::scheduledRing, x -> x.height(0, interval));
        }
        for (int interval : new int[] {0, -1, 201, LEAST, GREATEST}) {
            checks.refuses("height in a chain at " + interval, ARGUMENT, Samples::fullLoop,
                    x -> x.height(13, interval));
        }
    }

    private static void heightWithoutABound() {
        for (int interval : new int[] {-1, 0, 1, 2, 200, 201, LEAST, GREATEST}) {
            checks.refuses("height without a bound at " + interval, ARGUMENT, Samples::endlessPair,
                    x -> x.height(0, interval));
        }
    }

    private static void schedule() {
        for (int greatest : new int[] {0, 201, -1, LEAST, GREATEST}) {
            checks.refuses("schedule to " + greatest, ARGUMENT, Samples::scheduledRing, x -> x.schedule(greatest));
            checks.refuses("without a bound", ARGUMENT, Samples::endlessPair, x -> x.schedule(greatest));
            checks.refuses("without operations", ARGUMENT, Samples::scheduledNothing, x -> x.schedule(greatest));
        }
    }

    /** "if there is no schedule": none was sought, none was found, or a change removed it. */
    private static void withoutASchedule() {
        refusedWithout("not sought", Samples::ring);
        refusedWithout("not found", () -> changed(x -> x.schedule(3)));
        refusedWithout("removed by setUnits", () -> changed(x -> x.setUnits(2, 1)));
        refusedWithout("removed by addOperation", () -> changed(x -> x.addOperation(1, 1)));
        refusedWithout("removed by addDependence", () -> changed(x -> x.addDependence(1, 1, 0, 3)));
        refusedWithout("removed by setDelay", () -> changed(x -> x.setDelay(0, 2)));
        refusedWithoutAnyOperation("all attempts failed", () -> {
            LoopScheduler x = Samples.impossiblePair();
            x.schedule(200);
            return x;
        });
    }

    private static LoopScheduler changed(Checks.CallOf change) {
        LoopScheduler x = Samples.scheduledRing();
        change.answer(x);
        return x;
    }

    private static void refusedWithout(String why, Checks.Maker maker) {
        checks.refuses("time, " + why, STATE, maker, x -> x.time(0));
        checks.refuses("move, " + why, STATE, maker, x -> Checks.number(x.move(3, 7)));
        checks.refuses("freedom, " + why, STATE, maker, x -> x.freedom(3));
        checks.refuses("lifetime, " + why, STATE, maker, x -> x.lifetime(0));
        checks.refuses("copies, " + why, STATE, maker, x -> x.copies(3));
        refusedWithoutAnyOperation(why, maker);
    }

    private static void refusedWithoutAnyOperation(String why, Checks.Maker maker) {
        checks.refuses("interval, " + why, STATE, maker, x -> x.interval());
        checks.refuses("stages, " + why, STATE, maker, x -> x.stages());
        checks.refuses("taken, " + why, STATE, maker, x -> x.taken(0, 0));
        checks.refuses("live, " + why, STATE, maker, x -> x.live(0));
        checks.refuses("registers, " + why, STATE, maker, x -> x.registers());
        checks.refuses("unrolling, " + why, STATE, maker, x -> x.unrolling());
        checks.refuses("cycles, " + why, STATE, maker, x -> x.cycles(1));
        checks.refuses("issued, " + why, STATE, maker, x -> x.issued(1, 0));
        checks.refuses("issue, " + why, STATE, maker, x -> x.issue(1, 0, 0));
        checks.refuses("prologue, " + why, STATE, maker, x -> x.prologue());
        checks.refuses("epilogue, " + why, STATE, maker, x -> x.epilogue());
    }

    /** A loop without operations is refused without a schedule too, though its answers would be 0 or 1. */
    private static void withoutOperations() {
        refusedWithoutAnyOperation("new object", LoopScheduler::new);
        refusedWithoutAnyOperation("removed from nothing", () -> {
            LoopScheduler x = Samples.scheduledNothing();
            x.setUnits(0, 1);
            return x;
        });
    }

    /** "if there is no such operation", of the methods that ask a schedule. */
    private static void ofNoOperation() {
        for (int i : new int[] {-1, 4, 13, 14, LEAST, GREATEST}) {
            refusedOf(i, Samples::scheduledRing);
        }
        refusedOf(14, Samples::scheduledFullLoop);
        refusedOf(-1, Samples::scheduledFullLoop);
        refusedOf(0, Samples::scheduledNothing);
    }

    private static void refusedOf(int i, Checks.Maker maker) {
        checks.refuses("time of " + i, INDEX, maker, x -> x.time(i));
        checks.refuses("move of " + i, INDEX, maker, x -> Checks.number(x.move(i, 0)));
        checks.refuses("freedom of " + i, INDEX, maker, x -> x.freedom(i));
        checks.refuses("lifetime of " + i, INDEX, maker, x -> x.lifetime(i));
        checks.refuses("copies of " + i, INDEX, maker, x -> x.copies(i));
    }

    private static void moveToNoTime() {
        for (int time : new int[] {-1, 1001, -4, 1004, LEAST, GREATEST}) {
            checks.refuses("move to " + time, ARGUMENT, Samples::scheduledRing, x -> Checks.number(x.move(0, time)));
            checks.refuses("move to " + time + ", all free", ARGUMENT, Samples::scheduledSix,
                    x -> Checks.number(x.move(5, time)));
        }
    }

    private static void takenOfNoKind() {
        for (int kind : NO_KINDS) {
            checks.refuses("taken of the kind " + kind, INDEX, Samples::scheduledRing, x -> x.taken(0, kind));
            checks.refuses("taken of nothing", INDEX, Samples::scheduledNothing, x -> x.taken(0, kind));
        }
    }

    /** "if row is not 0 to the interval minus 1": at the intervals 4 and 1. */
    private static void rows() {
        for (int row : new int[] {-1, 4, 5, 199, 200, LEAST, GREATEST}) {
            checks.refuses("taken in the row " + row, ARGUMENT, Samples::scheduledRing, x -> x.taken(row, 2));
            checks.refuses("live in the row " + row, ARGUMENT, Samples::scheduledRing, x -> x.live(row));
        }
        for (int row : new int[] {-1, 1, 2, LEAST, GREATEST}) {
            checks.refuses("taken, one row", ARGUMENT, Samples::scheduledSix, x -> x.taken(row, 0));
            checks.refuses("live, one row", ARGUMENT, Samples::scheduledSix, x -> x.live(row));
            checks.refuses("taken of nothing", ARGUMENT, Samples::scheduledNothing, x -> x.taken(row, 0));
            checks.refuses("live of nothing", ARGUMENT, Samples::scheduledNothing, x -> x.live(row));
        }
    }

    private static void cycles() {
        for (int n : NO_COUNTS) {
            checks.refuses("cycles of " + n, ARGUMENT, Samples::scheduledRing, x -> x.cycles(n));
            checks.refuses("cycles without operations", ARGUMENT, Samples::scheduledNothing, x -> x.cycles(n));
        }
    }

    private static void issued() {
        for (int n : NO_COUNTS) {
            checks.refuses("issued of " + n, ARGUMENT, Samples::scheduledRing, x -> x.issued(n, 0));
            checks.refuses("issued without operations", ARGUMENT, Samples::scheduledNothing, x -> x.issued(n, 0));
        }
        for (int cycle : NEGATIVES) {
            checks.refuses("issued in " + cycle, ARGUMENT, Samples::scheduledRing, x -> x.issued(1, cycle));
            checks.refuses("issued of nothing", ARGUMENT, Samples::scheduledNothing, x -> x.issued(1000, cycle));
        }
    }

    private static void issue() {
        for (int n : NO_COUNTS) {
            checks.refuses("issue of " + n, ARGUMENT, Samples::scheduledRing, x -> x.issue(n, 0, 0));
        }
        for (int cycle : NEGATIVES) {
            checks.refuses("issue in " + cycle, ARGUMENT, Samples::scheduledRing, x -> x.issue(1, cycle, 0));
        }
    }

    /** In the cycle 6 of the ring two are issued, in the cycle 1 none, in one of the six six, of the full loop three. */
    private static void issueOfNoIndex() {
        for (int index : new int[] {-1, 2, 3, 14, LEAST, GREATEST}) {
            checks.refuses("issue of the index " + index, INDEX, Samples::scheduledRing, x -> x.issue(10, 6, index));
        }
        checks.refuses("the other iteration is none", INDEX, Samples::scheduledRing, x -> x.issue(1, 6, 1));
        checks.refuses("nothing is issued", INDEX, Samples::scheduledRing, x -> x.issue(10, 1, 0));
        checks.refuses("the cycle behind the last", INDEX, Samples::scheduledRing, x -> x.issue(10, 44, 0));
        checks.refuses("the greatest cycle", INDEX, Samples::scheduledRing, x -> x.issue(1000, GREATEST, 0));
        checks.refuses("the seventh of six", INDEX, Samples::scheduledSix, x -> x.issue(1, 0, 6));
        checks.refuses("the fourth of three", INDEX, Samples::scheduledFullLoop, x -> x.issue(9, 13, 3));
        checks.refuses("of no operations", INDEX, Samples::scheduledNothing, x -> x.issue(1, 0, 0));
    }
}
