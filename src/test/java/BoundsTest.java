/** Promises 8 to 10: both bounds and the heights. */
final class BoundsTest {
    private static final Checks checks = new Checks("BoundsTest");

    public static void main(String[] args) {
        resourceBound();
        recurrenceBound();
        recurrenceBoundOfManyWays();
        greatestRecurrenceBound();
        noRecurrenceBound();
        height();
        checks.finish();
    }

    private static void resourceBound() {
        LoopScheduler x = new LoopScheduler();
        checks.equal("resourceBound without operations", x.resourceBound(), 1);
        x.addOperation(0, 1);
        checks.equal("resourceBound of one", x.resourceBound(), 1);
        x.addOperation(1, 4);
        x.addOperation(1, 3);
        checks.equal("resourceBound of 7 by 1", x.resourceBound(), 7);
        x.setUnits(1, 2);
        checks.equal("resourceBound of 7 by 2", x.resourceBound(), 4);
        x.setUnits(1, 3);
        checks.equal("resourceBound of 7 by 3", x.resourceBound(), 3);
        x.addOperation(2, 4);
        checks.equal("resourceBound of another kind", x.resourceBound(), 4);
        x.setUnits(2, 2);
        checks.equal("resourceBound of 4 by 2", x.resourceBound(), 3);
        LoopScheduler full = Samples.operations(14, 2, 4);
        checks.equal("greatest resourceBound", full.resourceBound(), 56);
        full.setUnits(2, 3);
        checks.equal("resourceBound of 56 by 3", full.resourceBound(), 19);
    }

    private static void recurrenceBound() {
        LoopScheduler x = new LoopScheduler();
        checks.equal("recurrenceBound without operations", x.recurrenceBound(), 1);
        x.addOperation(0, 1);
        x.addOperation(0, 1);
        checks.equal("recurrenceBound without dependences", x.recurrenceBound(), 1);
        x.addDependence(0, 1, 12, 0);
        checks.equal("recurrenceBound without a closed way", x.recurrenceBound(), 1);
        x.addDependence(1, 0, 0, 3);
        checks.equal("12 over 3", x.recurrenceBound(), 4);
        x.setDelay(1, 1);
        checks.equal("13 over 3", x.recurrenceBound(), 5);
        x.addDependence(1, 1, 6, 1);
        checks.equal("6 over 1 to itself", x.recurrenceBound(), 6);
        x.setDelay(2, 12);
        checks.equal("12 over 1 to itself", x.recurrenceBound(), 12);
        checks.equal("the ring", Samples.ring().recurrenceBound(), 4);
    }

    private static void recurrenceBoundOfManyWays() {
        LoopScheduler x = Samples.operations(4, 0, 1);
        x.addDependence(3, 2, 5, 0);
        x.addDependence(2, 1, 5, 1);
        x.addDependence(1, 3, 5, 1);
        checks.equal("15 over 2", x.recurrenceBound(), 8);
        x.addDependence(1, 0, 1, 0);
        x.addDependence(0, 3, 12, 1);
        checks.equal("the longer one of two rings, 23 over 2", x.recurrenceBound(), 12);
        checks.equal("the resources do not matter", x.resourceBound(), 4);
    }

    private static void greatestRecurrenceBound() {
        LoopScheduler x = Samples.operations(14, 0, 1);
        for (int i = 0; i < 14; i++) {
            x.addDependence(i, (i + 1) % 14, 12, i == 13 ? 1 : 0);
        }
        checks.equal("168 over 1", x.recurrenceBound(), 168);
        x.setDelay(5, 11);
        checks.equal("167 over 1", x.recurrenceBound(), 167);
        checks.equal("height at that bound", x.height(0, 167), 155);
    }

    private static void noRecurrenceBound() {
        LoopScheduler x = Samples.impossiblePair();
        checks.equal("0 over 0", x.recurrenceBound(), 1);
        x.setDelay(0, 1);
        checks.equal("1 over 0", x.recurrenceBound(), -1);
        x.setDelay(0, 0);
        checks.equal("0 over 0 again", x.recurrenceBound(), 1);
        LoopScheduler self = Samples.operations(1, 0, 1);
        self.addDependence(0, 0, 0, 0);
        checks.equal("0 over 0 to itself", self.recurrenceBound(), 1);
        self.setDelay(0, 1);
        checks.equal("1 over 0 to itself", self.recurrenceBound(), -1);
    }

    private static void height() {
        LoopScheduler x = Samples.ring();
        int[] dueAt4 = {7, 5, 1, 0};
        for (int i = 0; i < 4; i++) {
            checks.equal("height at 4", x.height(i, 4), dueAt4[i]);
            checks.equal("height at 200", x.height(i, 200), dueAt4[i]);
        }
        LoopScheduler y = Samples.operations(4, 0, 1);
        y.addDependence(0, 1, 12, 3);
        y.addDependence(0, 2, 1, 0);
        y.addDependence(1, 3, 10, 0);
        y.addDependence(2, 3, 7, 1);
        checks.equal("height over distances at 1", y.height(0, 1), 19);
        checks.equal("height over distances at 4", y.height(0, 4), 10);
        checks.equal("height over distances at 5", y.height(0, 5), 7);
        checks.equal("height over distances at 7", y.height(0, 7), 1);
        checks.equal("height over a distance at 6", y.height(2, 6), 1);
        checks.equal("height is never less than 0", y.height(2, 8), 0);
        checks.equal("height of the last", y.height(3, 1), 0);
    }
}
