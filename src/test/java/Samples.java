/** Loops that several tests use. */
final class Samples {
    private Samples() {
    }

    /** Operations of the kinds 0, 1, 2, 0 in a ring with the delays 2, 4, 1, 1, the last over the distance 2. */
    static LoopScheduler ring() {
        LoopScheduler x = new LoopScheduler();
        x.addOperation(0, 1);
        x.addOperation(1, 2);
        x.addOperation(2, 1);
        x.addOperation(0, 1);
        x.addDependence(0, 1, 2, 0);
        x.addDependence(1, 2, 4, 0);
        x.addDependence(2, 3, 1, 0);
        x.addDependence(3, 0, 1, 2);
        return x;
    }

    /** The ring with its schedule: the interval 4 and the times 0, 2, 6, 7. */
    static LoopScheduler scheduledRing() {
        LoopScheduler x = ring();
        x.schedule(20);
        return x;
    }

    /** So many operations of one kind, each busy as long, without dependences. */
    static LoopScheduler operations(int count, int kind, int busy) {
        LoopScheduler x = new LoopScheduler();
        for (int i = 0; i < count; i++) {
            x.addOperation(kind, busy);
        }
        return x;
    }

    /** Two operations of one kind that must have the same time, though there is one unit. */
    static LoopScheduler impossiblePair() {
        LoopScheduler x = operations(2, 1, 1);
        x.addDependence(0, 1, 0, 0);
        x.addDependence(1, 0, 0, 0);
        return x;
    }

    /** Six operations of which each kind has two, at the interval 1, all at the time 0. */
    static LoopScheduler sixAtOnce() {
        LoopScheduler x = new LoopScheduler();
        for (int i = 0; i < 6; i++) {
            x.addOperation(i % 3, 1);
        }
        for (int kind = 0; kind < 3; kind++) {
            x.setUnits(kind, 2);
        }
        return x;
    }

    /** The pair with a closed way over the distance 0 whose sum is 1: it has no recurrence bound. */
    static LoopScheduler endlessPair() {
        LoopScheduler x = impossiblePair();
        x.setDelay(1, 1);
        return x;
    }

    /** No operations, and the schedule of that: the interval 1. */
    static LoopScheduler scheduledNothing() {
        LoopScheduler x = new LoopScheduler();
        x.schedule(1);
        return x;
    }

    /** The six with their schedule. */
    static LoopScheduler scheduledSix() {
        LoopScheduler x = sixAtOnce();
        x.schedule(1);
        return x;
    }

    /** 14 operations in a chain with the delay 1, told by 40 dependences; three of them can begin in a row. */
    static LoopScheduler fullLoop() {
        LoopScheduler x = operations(14, 0, 1);
        x.setUnits(0, 3);
        for (int k = 0; k < 40; k++) {
            x.addDependence(k % 13, k % 13 + 1, 1, 0);
        }
        return x;
    }

    /** The full loop with its schedule: the interval 5, and for each operation its number as its time. */
    static LoopScheduler scheduledFullLoop() {
        LoopScheduler x = fullLoop();
        x.schedule(200);
        return x;
    }
}
