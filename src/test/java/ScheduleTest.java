/** Promises 11 to 19: the search, the schedule and its moves. */
final class ScheduleTest {
    private static final Checks checks = new Checks("ScheduleTest");

    public static void main(String[] args) {
        schedule();
        scheduleOrder();
        scheduleWithinLatest();
        scheduleOfLongBusy();
        scheduleFails();
        attempts();
        hasScheduleAndInterval();
        time();
        move();
        moveOfUnits();
        freedom();
        stages();
        taken();
        checks.finish();
    }

    private static void schedule() {
        LoopScheduler x = Samples.ring();
        checks.equal("schedule of the ring", x.schedule(20), 4);
        checks.times("the ring", x, 0, 2, 6, 7);
        checks.equal("schedule with the least greatest", x.schedule(4), 4);
        checks.equal("schedule with the greatest greatest", x.schedule(200), 4);
        LoopScheduler empty = new LoopScheduler();
        checks.equal("schedule without operations", empty.schedule(1), 1);
        checks.isTrue("there is one without operations", empty.hasSchedule());
        LoopScheduler one = Samples.operations(14, 0, 4);
        checks.equal("schedule of 56 busy cycles", one.schedule(56), 56);
        checks.equal("its last time", one.time(13), 52);
    }

    private static void scheduleOrder() {
        LoopScheduler x = Samples.operations(3, 0, 1);
        x.addDependence(1, 2, 5, 0);
        checks.equal("greater heights first", x.schedule(9), 3);
        checks.times("greater heights first", x, 1, 0, 5);
        LoopScheduler y = Samples.operations(4, 1, 2);
        y.setUnits(1, 2);
        checks.equal("smaller numbers first", y.schedule(9), 4);
        checks.times("smaller numbers first", y, 0, 0, 2, 2);
        LoopScheduler z = Samples.operations(3, 0, 1);
        z.addDependence(2, 0, 3, 0);
        z.addDependence(1, 0, 3, 0);
        checks.equal("a row after the earliest", z.schedule(9), 3);
        checks.times("a row after the earliest", z, 5, 0, 1);
    }

    /** A dependence back to what is placed limits the times. */
    private static void scheduleWithinLatest() {
        LoopScheduler x = Samples.operations(3, 0, 1);
        x.addDependence(0, 1, 2, 0);
        x.addDependence(1, 2, 2, 0);
        x.addDependence(2, 0, 0, 1);
        checks.equal("the limit refuses 4", x.schedule(4), -1);
        checks.equal("one attempt at 4", x.attempts(), 1);
        checks.equal("5 holds the limit", x.schedule(9), 5);
        checks.equal("attempts at 4 and 5", x.attempts(), 2);
        checks.times("5 holds the limit", x, 0, 2, 4);
    }

    /** An operation that is busy longer than the interval takes a row twice. */
    private static void scheduleOfLongBusy() {
        LoopScheduler x = Samples.operations(1, 2, 4);
        x.setUnits(2, 3);
        checks.equal("4 busy cycles on 3 units", x.schedule(9), 2);
        checks.equal("first row taken twice", x.taken(0, 2), 2);
        checks.equal("second row taken twice", x.taken(1, 2), 2);
        LoopScheduler y = Samples.operations(1, 0, 3);
        y.setUnits(0, 3);
        checks.equal("3 busy cycles on 3 units", y.schedule(9), 1);
        checks.equal("the row is taken three times", y.taken(0, 0), 3);
        LoopScheduler z = Samples.operations(2, 0, 3);
        z.setUnits(0, 3);
        checks.equal("both need one row twice", z.schedule(2), 2);
        checks.times("both need one row twice", z, 0, 1);
        checks.equal("3 in row 0", z.taken(0, 0), 3);
        checks.equal("3 in row 1", z.taken(1, 0), 3);
    }

    private static void scheduleFails() {
        LoopScheduler x = Samples.impossiblePair();
        checks.equal("no interval will do", x.schedule(200), -1);
        checks.equal("attempts for 2 to 200", x.attempts(), 199);
        checks.isFalse("none is there", x.hasSchedule());
        x.setUnits(1, 2);
        checks.equal("with two units", x.schedule(200), 1);
        x.setDelay(1, 1);
        checks.equal("without a recurrence bound", x.schedule(200), -1);
        checks.equal("no attempt then", x.attempts(), 0);
        LoopScheduler ring = Samples.scheduledRing();
        checks.equal("greatest below the bounds", ring.schedule(3), -1);
        checks.equal("no attempt below the bounds", ring.attempts(), 0);
        checks.isFalse("the former schedule is gone", ring.hasSchedule());
    }

    private static void attempts() {
        LoopScheduler x = Samples.operations(4, 0, 1);
        x.addOperation(0, 2);
        x.setUnits(0, 3);
        checks.equal("attempts before a search", x.attempts(), 0);
        checks.equal("no row pair is left at 2", x.schedule(2), -1);
        checks.equal("one attempt", x.attempts(), 1);
        checks.equal("schedule at 3", x.schedule(200), 3);
        checks.equal("two attempts", x.attempts(), 2);
        LoopScheduler pair = Samples.impossiblePair();
        pair.schedule(5);
        checks.equal("attempts for 2 to 5", pair.attempts(), 4);
        pair.schedule(1);
        checks.equal("attempts are not added up", pair.attempts(), 0);
        pair.schedule(3);
        pair.setDelay(0, 3);
        checks.equal("a change leaves the attempts", pair.attempts(), 2);
        pair.schedule(9);
        checks.equal("the latest search made none", pair.attempts(), 0);
    }

    private static void hasScheduleAndInterval() {
        LoopScheduler x = Samples.ring();
        checks.isFalse("hasSchedule before", x.hasSchedule());
        x.schedule(9);
        checks.isTrue("hasSchedule after", x.hasSchedule());
        checks.equal("interval after", x.interval(), 4);
        x.setDelay(3, 3);
        checks.isFalse("hasSchedule after a change", x.hasSchedule());
        x.schedule(9);
        checks.equal("interval of the new one", x.interval(), 5);
    }

    private static void time() {
        LoopScheduler x = Samples.ring();
        x.schedule(9);
        checks.times("time", x, 0, 2, 6, 7);
    }

    private static void move() {
        LoopScheduler x = Samples.scheduledRing();
        checks.isTrue("move to its time", x.move(2, 6));
        checks.isFalse("move behind what needs it", x.move(2, 7));
        checks.isFalse("move before what it needs", x.move(2, 5));
        checks.times("refused moves change nothing", x, 0, 2, 6, 7);
        x.setDelay(1, 3);
        x.schedule(4);
        checks.times("a shorter delay", x, 0, 2, 5, 6);
        checks.isTrue("move the last", x.move(3, 7));
        checks.isFalse("not behind the ring's end", x.move(3, 8));
        checks.isTrue("now the third too", x.move(2, 6));
        checks.isTrue("now the second too", x.move(1, 3));
        checks.times("after the moves", x, 0, 3, 6, 7);
        checks.equal("the interval stays", x.interval(), 4);
        checks.isTrue("move the first", x.move(0, 1));
        checks.isFalse("not before another's row", x.move(3, 1));
        LoopScheduler self = Samples.operations(1, 0, 1);
        self.addDependence(0, 0, 5, 1);
        self.schedule(9);
        checks.isTrue("a dependence to itself moves along", self.move(0, 1000));
        checks.equal("its time", self.time(0), 1000);
        checks.isTrue("and back", self.move(0, 0));
    }

    private static void moveOfUnits() {
        LoopScheduler x = Samples.operations(2, 0, 2);
        x.addOperation(1, 1);
        x.addDependence(2, 2, 5, 1);
        x.schedule(5);
        checks.times("two of one kind", x, 0, 2, 0);
        checks.isFalse("both rows taken", x.move(1, 0));
        checks.isFalse("one row taken, later", x.move(1, 4));
        checks.isFalse("one row taken, sooner", x.move(1, 1));
        checks.isFalse("taken in a later interval", x.move(1, 999));
        checks.isTrue("free", x.move(1, 3));
        checks.equal("left row", x.taken(2, 0), 0);
        checks.equal("new row", x.taken(4, 0), 1);
        checks.isTrue("free in a later interval", x.move(1, 998));
        checks.equal("the time is not cut", x.time(1), 998);
        checks.isTrue("another kind's row", x.move(2, 998));
        LoopScheduler y = Samples.operations(1, 2, 3);
        y.setUnits(2, 2);
        y.schedule(2);
        checks.isTrue("over its own rows", y.move(0, 1));
        checks.equal("row taken once", y.taken(0, 2), 1);
        checks.equal("row taken twice", y.taken(1, 2), 2);
    }

    private static void freedom() {
        LoopScheduler x = Samples.scheduledRing();
        for (int i = 0; i < 4; i++) {
            checks.equal("freedom in the ring", x.freedom(i), 1);
        }
        x.setDelay(1, 3);
        x.schedule(4);
        checks.equal("freedom before the second", x.freedom(0), 1);
        checks.equal("freedom of the last", x.freedom(3), 2);
        LoopScheduler alone = Samples.operations(1, 0, 1);
        alone.schedule(1);
        checks.equal("freedom of all times", alone.freedom(0), 1001);
        alone.move(0, 1000);
        checks.equal("freedom at the end", alone.freedom(0), 1001);
        LoopScheduler y = Samples.operations(2, 0, 1);
        y.schedule(2);
        checks.equal("every second time from 0", y.freedom(0), 501);
        checks.equal("every second time from 1", y.freedom(1), 500);
        y.addDependence(0, 1, 10, 0);
        y.schedule(2);
        checks.times("ten later", y, 0, 11);
        checks.equal("0 only", y.freedom(0), 1);
        checks.equal("11, 13, .. 999", y.freedom(1), 495);
        y.move(1, 999);
        checks.equal("0, 2, .. 988", y.freedom(0), 495);
        checks.equal("freedom does not move", y.time(0), 0);
        LoopScheduler full = Samples.operations(3, 1, 3);
        full.schedule(9);
        checks.equal("three of nine rows", full.freedom(1), 111);
    }

    private static void stages() {
        LoopScheduler x = Samples.ring();
        x.schedule(9);
        checks.equal("stages of 7 by 4", x.stages(), 2);
        x.setDelay(2, 2);
        x.setDelay(3, 0);
        x.setUnits(0, 2);
        checks.equal("schedule of the longer ring", x.schedule(9), 4);
        checks.equal("stages of 8 by 4", x.stages(), 3);
        LoopScheduler one = Samples.operations(1, 0, 1);
        one.schedule(1);
        checks.equal("stages of 0 by 1", one.stages(), 1);
        one.move(0, 1000);
        checks.equal("stages of 1000 by 1", one.stages(), 1001);
        LoopScheduler empty = new LoopScheduler();
        empty.schedule(5);
        checks.equal("stages without operations", empty.stages(), 0);
    }

    private static void taken() {
        LoopScheduler x = Samples.scheduledRing();
        int[][] due = {{1, 0, 0, 1}, {0, 0, 1, 1}, {0, 0, 1, 0}};
        for (int kind = 0; kind < 3; kind++) {
            for (int row = 0; row < 4; row++) {
                checks.equal("taken(" + row + ", " + kind + ")", x.taken(row, kind), due[kind][row]);
            }
        }
        LoopScheduler wrap = Samples.operations(1, 0, 3);
        wrap.schedule(9);
        wrap.move(0, 11);
        wrap.addDependence(0, 0, 5, 1);
        wrap.schedule(9);
        wrap.move(0, 4);
        int[] rows = {1, 1, 0, 0, 1};
        for (int row = 0; row < 5; row++) {
            checks.equal("busy over the end of the interval", wrap.taken(row, 0), rows[row]);
        }
    }
}
