/** Promises 1 to 7: a new object, its units, operations and dependences. */
final class LoopTest {
    private static final Checks checks = new Checks("LoopTest");

    public static void main(String[] args) {
        newObject();
        setUnits();
        addOperation();
        addDependence();
        setDelay();
        counts();
        changesRemoveTheSchedule();
        checks.finish();
    }

    private static void newObject() {
        LoopScheduler x = new LoopScheduler();
        checks.equal("operations of a new object", x.operationCount(), 0);
        checks.equal("dependences of a new object", x.dependenceCount(), 0);
        checks.equal("attempts of a new object", x.attempts(), 0);
        checks.isFalse("schedule of a new object", x.hasSchedule());
        checks.equal("digest of a new object", x.digest(), Checks.digestOf(1, 1, 1, 0, 0, 0));
        for (int kind = 0; kind < 3; kind++) {
            checks.equal("units of a new object", x.setUnits(kind, 1), 1);
        }
    }

    private static void setUnits() {
        LoopScheduler x = new LoopScheduler();
        for (int kind = 0; kind < 3; kind++) {
            checks.equal("setUnits(kind, 3)", x.setUnits(kind, 3), 1);
            checks.equal("setUnits(kind, 2)", x.setUnits(kind, 2), 3);
            checks.equal("setUnits(kind, 1)", x.setUnits(kind, 1), 2);
        }
        x.setUnits(0, 3);
        x.setUnits(2, 2);
        checks.equal("each kind has units of its own", x.digest(), Checks.digestOf(3, 1, 2, 0, 0, 0));
        LoopScheduler other = new LoopScheduler();
        checks.equal("each object has units of its own", other.setUnits(0, 1), 1);
    }

    private static void addOperation() {
        LoopScheduler x = new LoopScheduler();
        for (int i = 0; i < 14; i++) {
            checks.equal("addOperation", x.addOperation(i % 3, 1 + i % 4), i);
        }
        LoopScheduler y = new LoopScheduler();
        y.addOperation(0, 4);
        y.addOperation(2, 1);
        checks.equal("kinds and busy cycles", y.digest(), Checks.digestOf(1, 1, 1, 2, 0, 4, 2, 1, 0, 0));
    }

    private static void addDependence() {
        LoopScheduler x = Samples.operations(3, 0, 1);
        checks.equal("addDependence, least delay and distance", x.addDependence(0, 1, 0, 0), 0);
        checks.equal("addDependence, greatest", x.addDependence(2, 0, 12, 3), 1);
        checks.equal("addDependence to itself", x.addDependence(1, 1, 3, 1), 2);
        checks.equal("addDependence once more", x.addDependence(1, 1, 3, 1), 3);
        checks.equal("dependences", x.digest(), Checks.digestOf(1, 1, 1, 3, 0, 1, 0, 1, 0, 1,
                4, 0, 1, 0, 0, 2, 0, 12, 3, 1, 1, 3, 1, 1, 1, 3, 1, 0));
        for (int k = 4; k < 40; k++) {
            checks.equal("addDependence", x.addDependence(k % 3, 2, k % 13, 1), k);
        }
    }

    private static void setDelay() {
        LoopScheduler x = Samples.ring();
        checks.equal("setDelay(1, 12)", x.setDelay(1, 12), 4);
        checks.equal("setDelay(1, 0)", x.setDelay(1, 0), 12);
        checks.equal("setDelay(3, 5)", x.setDelay(3, 5), 1);
        checks.equal("setDelay(1, 0) again", x.setDelay(1, 0), 0);
        checks.equal("the delays", x.digest(), Checks.digestOf(1, 1, 1, 4, 0, 1, 1, 2, 2, 1, 0, 1,
                4, 0, 1, 2, 0, 1, 2, 0, 0, 2, 3, 1, 0, 3, 0, 5, 2, 0));
    }

    private static void counts() {
        LoopScheduler x = new LoopScheduler();
        x.addOperation(0, 1);
        x.addOperation(1, 1);
        x.addDependence(0, 1, 1, 0);
        checks.equal("operationCount", x.operationCount(), 2);
        checks.equal("dependenceCount", x.dependenceCount(), 1);
        x.addDependence(1, 1, 1, 1);
        checks.equal("operationCount stays", x.operationCount(), 2);
        checks.equal("dependenceCount grows", x.dependenceCount(), 2);
        checks.equal("operationCount of 14", Samples.operations(14, 0, 1).operationCount(), 14);
    }

    private static void changesRemoveTheSchedule() {
        LoopScheduler x = Samples.scheduledRing();
        checks.equal("setUnits that changes nothing", x.setUnits(1, 1), 1);
        lostSchedule(x);
        checks.equal("setDelay that changes nothing", x.setDelay(1, 4), 4);
        lostSchedule(x);
        checks.equal("addDependence that asks nothing", x.addDependence(0, 3, 0, 3), 4);
        lostSchedule(x);
        checks.equal("addOperation", x.addOperation(2, 1), 4);
        lostSchedule(x);
        checks.isTrue("move that changes nothing", x.move(0, x.time(0)));
        checks.isTrue("move keeps the schedule", x.hasSchedule());
    }

    /** The schedule is gone, the attempts are not; makes it again. */
    private static void lostSchedule(LoopScheduler x) {
        checks.isFalse("schedule after a change", x.hasSchedule());
        checks.equal("attempts after a change", x.attempts(), 1);
        checks.equal("the next schedule", x.schedule(20), 4);
    }
}
