/**
 * "If several exceptions apply, the one that is named first is thrown": for each method that names more than one, each
 * two of them at once, and all.
 */
final class ExceptionOrderTest {
    private static final Class<IndexOutOfBoundsException> INDEX = IndexOutOfBoundsException.class;
    private static final Class<IllegalArgumentException> ARGUMENT = IllegalArgumentException.class;
    private static final Class<IllegalStateException> STATE = IllegalStateException.class;

    private static final Checks checks = new Checks("ExceptionOrderTest");

    public static void main(String[] args) {
        setUnits();
        addOperation();
        addDependence();
        setDelay();
        height();
        methodsOfAnOperation();
        move();
        taken();
        live();
        cyclesAndIssued();
        issue();
        checks.finish();
    }

    private static void setUnits() {
        checks.refuses("setUnits: kind, units", INDEX, Samples::scheduledRing, x -> x.setUnits(3, 0));
        checks.refuses("setUnits: kind, units", INDEX, Samples::scheduledRing, x -> x.setUnits(-1, 4));
    }

    private static void addOperation() {
        Checks.Maker full = Samples::scheduledFullLoop;
        checks.refuses("addOperation: kind, the 15th", ARGUMENT, full, x -> x.addOperation(3, 1));
        checks.refuses("addOperation: busy, the 15th", ARGUMENT, full, x -> x.addOperation(0, 0));
        checks.refuses("addOperation: busy 5, the 15th", ARGUMENT, full, x -> x.addOperation(0, 5));
        checks.refuses("addOperation: all", ARGUMENT, full, x -> x.addOperation(-1, 5));
    }

    private static void addDependence() {
        Checks.Maker ring = Samples::scheduledRing;
        Checks.Maker full = Samples::scheduledFullLoop;
        checks.refuses("addDependence: from, delay", INDEX, ring, x -> x.addDependence(4, 0, 13, 0));
        checks.refuses("addDependence: from, distance", INDEX, ring, x -> x.addDependence(-1, 0, 0, 4));
        checks.refuses("addDependence: to, delay", INDEX, ring, x -> x.addDependence(0, 4, -1, 0));
        checks.refuses("addDependence: to, distance", INDEX, ring, x -> x.addDependence(0, -1, 0, -1));
        checks.refuses("addDependence: from, the 41st", INDEX, full, x -> x.addDependence(14, 0, 0, 0));
        checks.refuses("addDependence: to, the 41st", INDEX, full, x -> x.addDependence(0, 14, 0, 0));
        checks.refuses("addDependence: delay, the 41st", ARGUMENT, full, x -> x.addDependence(0, 1, 13, 0));
        checks.refuses("addDependence: distance, the 41st", ARGUMENT, full, x -> x.addDependence(0, 1, 0, 4));
        checks.refuses("addDependence: all", INDEX, full, x -> x.addDependence(14, 14, 13, 4));
    }

    private static void setDelay() {
        checks.refuses("setDelay: dependence, delay", INDEX, Samples::scheduledRing, x -> x.setDelay(4, 13));
        checks.refuses("setDelay: dependence, delay", INDEX, Samples::scheduledRing, x -> x.setDelay(-1, -1));
    }

    private static void height() {
        checks.refuses("height: operation, interval 3", INDEX, Samples::scheduledRing, x -> x.height(4, 3));
        checks.refuses("height: operation, interval 201", INDEX, Samples::scheduledRing, x -> x.height(-1, 201));
        checks.refuses("height: operation, no bound", INDEX, Samples::endlessPair, x -> x.height(2, 1));
        checks.refuses("height: all", INDEX, Samples::endlessPair, x -> x.height(-1, 0));
    }

    private static void methodsOfAnOperation() {
        for (int i : new int[] {-1, 4}) {
            checks.refuses("time: operation, schedule", INDEX, Samples::ring, x -> x.time(i));
            checks.refuses("freedom: operation, schedule", INDEX, Samples::ring, x -> x.freedom(i));
            checks.refuses("lifetime: operation, schedule", INDEX, Samples::ring, x -> x.lifetime(i));
            checks.refuses("copies: operation, schedule", INDEX, Samples::ring, x -> x.copies(i));
        }
    }

    private static void move() {
        checks.refuses("move: operation, time", INDEX, Samples::scheduledRing, x -> Checks.number(x.move(4, 1001)));
        checks.refuses("move: operation, schedule", INDEX, Samples::ring, x -> Checks.number(x.move(4, 0)));
        checks.refuses("move: time, schedule", ARGUMENT, Samples::ring, x -> Checks.number(x.move(0, 1001)));
        checks.refuses("move: time -1, schedule", ARGUMENT, Samples::ring, x -> Checks.number(x.move(3, -1)));
        checks.refuses("move: all", INDEX, Samples::ring, x -> Checks.number(x.move(-1, -1)));
    }

    private static void taken() {
        checks.refuses("taken: kind, row", INDEX, Samples::scheduledRing, x -> x.taken(4, 3));
        checks.refuses("taken: kind, schedule", INDEX, Samples::ring, x -> x.taken(0, 3));
        checks.refuses("taken: schedule, row", STATE, Samples::ring, x -> x.taken(-1, 0));
        checks.refuses("taken: schedule, row 200", STATE, Samples::ring, x -> x.taken(200, 2));
        checks.refuses("taken: all", INDEX, Samples::ring, x -> x.taken(-1, -1));
    }

    private static void live() {
        checks.refuses("live: schedule, row", STATE, Samples::ring, x -> x.live(-1));
        checks.refuses("live: schedule, row 200", STATE, Samples::ring, x -> x.live(200));
    }

    private static void cyclesAndIssued() {
        for (int n : new int[] {0, 1001}) {
            checks.refuses("cycles: schedule, n", STATE, Samples::ring, x -> x.cycles(n));
            checks.refuses("issued: schedule, n", STATE, Samples::ring, x -> x.issued(n, 0));
            checks.refuses("issued: all", STATE, Samples::ring, x -> x.issued(n, -1));
            checks.refuses("issued: n, cycle", ARGUMENT, Samples::scheduledRing, x -> x.issued(n, -1));
        }
        checks.refuses("issued: schedule, cycle", STATE, Samples::ring, x -> x.issued(1, -1));
    }

    private static void issue() {
        Checks.Maker ring = Samples::ring;
        Checks.Maker scheduled = Samples::scheduledRing;
        checks.refuses("issue: schedule, n", STATE, ring, x -> x.issue(0, 0, 0));
        checks.refuses("issue: schedule, cycle", STATE, ring, x -> x.issue(1, -1, 0));
        checks.refuses("issue: schedule, index", STATE, ring, x -> x.issue(1, 0, -1));
        checks.refuses("issue: n, index", ARGUMENT, scheduled, x -> x.issue(0, 0, 0));
        checks.refuses("issue: n 1001, index", ARGUMENT, scheduled, x -> x.issue(1001, 0, 1));
        checks.refuses("issue: cycle, index", ARGUMENT, scheduled, x -> x.issue(1, -1, 0));
        checks.refuses("issue: n, cycle, index", ARGUMENT, scheduled, x -> x.issue(1001, -1, -1));
        checks.refuses("issue: all", STATE, ring, x -> x.issue(1001, -1, -1));
        checks.refuses("issue: n of nothing, index", ARGUMENT, Samples::scheduledNothing, x -> x.issue(0, 0, 0));
    }
}
