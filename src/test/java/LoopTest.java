/** Promises 1 to 7: a new object, its units, operations and dependences. */
final class LoopTest {
    private static final Class<IndexOutOfBoundsException> INDEX = IndexOutOfBoundsException.class;
    private static final Class<IllegalArgumentException> ARGUMENT = IllegalArgumentException.class;
    private static final Class<IllegalStateException> STATE = IllegalStateException.class;
    private static final int LEAST = Integer.MIN_VALUE;
    private static final int GREATEST = Integer.MAX_VALUE;

    private static final Checks checks = new Checks("LoopTest");

    public static void main(String[] args) {
        newObject();
        setUnits();
        setUnitsRefuses();
        addOperation();
        addOperationRefuses();
        addDependence();
        addDependenceRefuses();
        setDelay();
        setDelayRefuses();
        counts();
        changesRemoveTheSchedule();
        checks.finish();
    }

    private static void newObject() {
        LoopScheduler x = new LoopScheduler();
        checks.equal("operations of a new object", x.operationCount(), 0);
        checks.equal("dependences of a new object", x.dependenceCount(), 0);
        checks.equal("attempts of a new object", x.attempts(), 0);
        checks.isFalse("schedule of a new object", x.hasSchedule());
        checks.equal("digest of a new object", x.digest(), Checks.digestOf(1, 1, 1, 0, 0, 0));
        for (int kind = 0; kind < 3; kind++) {
            checks.equal("units of a new object", x.setUnits(kind, 1), 1);
        }
    }

    private static void setUnits() {
        LoopScheduler x = new LoopScheduler();
        for (int kind = 0; kind < 3; kind++) {
            checks.equal("setUnits(kind, 3)", x.setUnits(kind, 3), 1);
            checks.equal("setUnits(kind, 2)", x.setUnits(kind, 2), 3);
            checks.equal("setUnits(kind, 1)", x.setUnits(kind, 1), 2);
        }
        x.setUnits(0, 3);
        x.setUnits(2, 2);
        checks.equal("each kind has units of its own", x.digest(), Checks.digestOf(3, 1, 2, 0, 0, 0));
        LoopScheduler other = new LoopScheduler();
        checks.equal("each object has units of its own", other.setUnits(0, 1), 1);
    }

    private static void setUnitsRefuses() {
        LoopScheduler x = Samples.scheduledRing();
        for (int kind : new int[] {-1, 3, LEAST, GREATEST}) {
            checks.refuses("setUnits, kind " + kind, INDEX, x, () -> x.setUnits(kind, 2));
            checks.refuses("setUnits, all wrong", INDEX, x, () -> x.setUnits(kind, 0));
        }
        for (int units : new int[] {0, 4, -1, LEAST, GREATEST}) {
            checks.refuses("setUnits, units " + units, ARGUMENT, x, () -> x.setUnits(0, units));
        }
    }

    private static void addOperation() {
        LoopScheduler x = new LoopScheduler();
        for (int i = 0; i < 14; i++) {
            checks.equal("addOperation", x.addOperation(i % 3, 1 + i % 4), i);
        }
        LoopScheduler y = new LoopScheduler();
        y.addOperation(0, 4);
        y.addOperation(2, 1);
        checks.equal("kinds and busy cycles", y.digest(), Checks.digestOf(1, 1, 1, 2, 0, 4, 2, 1, 0, 0));
    }

    private static void addOperationRefuses() {
        LoopScheduler x = Samples.scheduledRing();
        for (int kind : new int[] {-1, 3, LEAST, GREATEST}) {
            checks.refuses("addOperation, kind " + kind, ARGUMENT, x, () -> x.addOperation(kind, 1));
        }
        for (int busy : new int[] {0, 5, -1, LEAST, GREATEST}) {
            checks.refuses("addOperation, busy " + busy, ARGUMENT, x, () -> x.addOperation(0, busy));
        }
        LoopScheduler full = Samples.operations(14, 1, 1);
        full.schedule(14);
        checks.refuses("addOperation, the 15th", STATE, full, () -> full.addOperation(0, 1));
        checks.refuses("addOperation, the 15th, kind 3", ARGUMENT, full, () -> full.addOperation(3, 1));
        checks.refuses("addOperation, the 15th, busy 0", ARGUMENT, full, () -> full.addOperation(0, 0));
        checks.isTrue("the schedule stays", full.hasSchedule());
    }

    private static void addDependence() {
        LoopScheduler x = Samples.operations(3, 0, 1);
        checks.equal("addDependence, least delay and distance", x.addDependence(0, 1, 0, 0), 0);
        checks.equal("addDependence, greatest", x.addDependence(2, 0, 12, 3), 1);
        checks.equal("addDependence to itself", x.addDependence(1, 1, 3, 1), 2);
        checks.equal("addDependence once more", x.addDependence(1, 1, 3, 1), 3);
        checks.equal("dependences", x.digest(), Checks.digestOf(1, 1, 1, 3, 0, 1, 0, 1, 0, 1,
                4, 0, 1, 0, 0, 2, 0, 12, 3, 1, 1, 3, 1, 1, 1, 3, 1, 0));
        for (int k = 4; k < 40; k++) {
            checks.equal("addDependence", x.addDependence(k % 3, 2, k % 13, 1), k);
        }
    }

    private static void addDependenceRefuses() {
        LoopScheduler x = Samples.scheduledRing();
        for (int i : new int[] {-1, 4, 14, LEAST, GREATEST}) {
            checks.refuses("addDependence, from " + i, INDEX, x, () -> x.addDependence(i, 0, 1, 1));
            checks.refuses("addDependence, to " + i, INDEX, x, () -> x.addDependence(0, i, 1, 1));
            checks.refuses("addDependence, from, delay wrong", INDEX, x, () -> x.addDependence(i, 0, 13, 1));
            checks.refuses("addDependence, to, distance wrong", INDEX, x, () -> x.addDependence(0, i, 1, 4));
        }
        for (int delay : new int[] {-1, 13, LEAST, GREATEST}) {
            checks.refuses("addDependence, delay " + delay, ARGUMENT, x, () -> x.addDependence(0, 1, delay, 0));
        }
        for (int distance : new int[] {-1, 4, LEAST, GREATEST}) {
            checks.refuses("addDependence, distance", ARGUMENT, x, () -> x.addDependence(0, 1, 1, distance));
        }
        LoopScheduler empty = new LoopScheduler();
        checks.refuses("addDependence, no operations", INDEX, empty, () -> empty.addDependence(0, 0, 0, 0));
        addDependenceRefusesThe41st();
    }

    private static void addDependenceRefusesThe41st() {
        LoopScheduler x = Samples.operations(2, 0, 1);
        for (int k = 0; k < 40; k++) {
            x.addDependence(0, 1, 1, 0);
        }
        x.schedule(9);
        checks.refuses("the 41st dependence", STATE, x, () -> x.addDependence(0, 1, 1, 0));
        checks.refuses("the 41st, from wrong", INDEX, x, () -> x.addDependence(2, 1, 1, 0));
        checks.refuses("the 41st, delay wrong", ARGUMENT, x, () -> x.addDependence(0, 1, 13, 0));
        checks.refuses("the 41st, distance wrong", ARGUMENT, x, () -> x.addDependence(0, 1, 1, 4));
        checks.isTrue("the schedule stays", x.hasSchedule());
    }

    private static void setDelay() {
        LoopScheduler x = Samples.ring();
        checks.equal("setDelay(1, 12)", x.setDelay(1, 12), 4);
        checks.equal("setDelay(1, 0)", x.setDelay(1, 0), 12);
        checks.equal("setDelay(3, 5)", x.setDelay(3, 5), 1);
        checks.equal("setDelay(1, 0) again", x.setDelay(1, 0), 0);
        checks.equal("the delays", x.digest(), Checks.digestOf(1, 1, 1, 4, 0, 1, 1, 2, 2, 1, 0, 1,
                4, 0, 1, 2, 0, 1, 2, 0, 0, 2, 3, 1, 0, 3, 0, 5, 2, 0));
    }

    private static void setDelayRefuses() {
        LoopScheduler x = Samples.scheduledRing();
        for (int dependence : new int[] {-1, 4, 40, LEAST, GREATEST}) {
            checks.refuses("setDelay of " + dependence, INDEX, x, () -> x.setDelay(dependence, 1));
            checks.refuses("setDelay, both wrong", INDEX, x, () -> x.setDelay(dependence, 13));
        }
        for (int delay : new int[] {-1, 13, LEAST, GREATEST}) {
            checks.refuses("setDelay to " + delay, ARGUMENT, x, () -> x.setDelay(0, delay));
        }
    }

    private static void counts() {
        LoopScheduler x = new LoopScheduler();
        x.addOperation(0, 1);
        x.addOperation(1, 1);
        x.addDependence(0, 1, 1, 0);
        checks.equal("operationCount", x.operationCount(), 2);
        checks.equal("dependenceCount", x.dependenceCount(), 1);
        x.addDependence(1, 1, 1, 1);
        checks.equal("operationCount stays", x.operationCount(), 2);
        checks.equal("dependenceCount grows", x.dependenceCount(), 2);
        checks.equal("operationCount of 14", Samples.operations(14, 0, 1).operationCount(), 14);
    }

    private static void changesRemoveTheSchedule() {
        LoopScheduler x = Samples.scheduledRing();
        checks.equal("setUnits that changes nothing", x.setUnits(1, 1), 1);
        lostSchedule(x);
        checks.equal("setDelay that changes nothing", x.setDelay(1, 4), 4);
        lostSchedule(x);
        checks.equal("addDependence that asks nothing", x.addDependence(0, 3, 0, 3), 4);
        lostSchedule(x);
        checks.equal("addOperation", x.addOperation(2, 1), 4);
        lostSchedule(x);
        checks.isTrue("move that changes nothing", x.move(0, x.time(0)));
        checks.isTrue("move keeps the schedule", x.hasSchedule());
    }

    /** The schedule is gone, the attempts are not; makes it again. */
    private static void lostSchedule(LoopScheduler x) {
        checks.isFalse("schedule after a change", x.hasSchedule());
        checks.equal("attempts after a change", x.attempts(), 1);
        checks.equal("the next schedule", x.schedule(20), 4);
    }
}
