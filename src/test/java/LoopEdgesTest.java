/**
 * The sentences about a loop and its bounds (promises 1 to 10) that name a boundary: a test for each, which holds what
 * is allowed and what is just behind it. Every refused argument stands in RefusalTest.
 */
final class LoopEdgesTest {
    private static final Class<IndexOutOfBoundsException> INDEX = IndexOutOfBoundsException.class;
    private static final Class<IllegalStateException> STATE = IllegalStateException.class;

    private static final Checks checks = new Checks("LoopEdgesTest");

    public static void main(String[] args) {
        atMost512Calls();
        withoutOperationsAndDependences();
        atMost14Operations();
        kindsAndBusyCycles();
        units();
        atMost40Dependences();
        alsoTheSameOne();
        delaysAndDistances();
        theNumberBefore();
        theDelayBefore();
        aChangeRemovesTheSchedule();
        aChangeOfNothingRemovesTheSchedule();
        aRefusedChangeIsNone();
        resourceBoundIsAtLeastOne();
        resourceBoundIsRoundedUp();
        resourceBoundOverAllKinds();
        greatestResourceBound();
        recurrenceBoundFromOne();
        sumsNotGreaterThanZero();
        recurrenceBoundOfNoInterval();
        greatestRecurrenceBound();
        openWaysDoNotBind();
        theLastDependenceBinds();
        aWayWithoutDependences();
        heightsOverSumsOfZero();
        heightsOfTheLongestWay();
        heightAtTheBoundAndAt200();
        checks.finish();
    }

    /** "An object is used for at most 512 calls after it has been made": the last of them still answers. */
    private static void atMost512Calls() {
        LoopScheduler x = new LoopScheduler();
        for (int call = 1; call <= 499; call++) {
            checks.equal("call " + call, x.operationCount(), 0);
        }
        checks.equal("call 500, addOperation", x.addOperation(0, 1), 0);
        checks.equal("call 501, addOperation", x.addOperation(1, 2), 1);
        checks.equal("call 502, addDependence", x.addDependence(0, 1, 3, 0), 0);
        checks.equal("call 503, addDependence", x.addDependence(1, 0, 2, 1), 1);
        checks.equal("call 504, schedule", x.schedule(200), 5);
        checks.equal("call 505, time", x.time(1), 3);
        checks.isFalse("call 506, move", x.move(1, 4));
        checks.equal("call 507, freedom", x.freedom(1), 1);
        checks.equal("call 508, registers", x.registers(), 1);
        checks.equal("call 509, unrolling", x.unrolling(), 1);
        checks.equal("call 510, cycles", x.cycles(10), 49);
        checks.equal("call 511, issue", x.issue(10, 48, 0), 14 * 9 + 1);
        checks.equal("call 512, digest", x.digest(),
                Checks.digestOf(1, 1, 1, 2, 0, 1, 1, 2, 2, 0, 1, 3, 0, 1, 0, 2, 1, 5, 0, 3));
    }

    /** "Creates a scheduler without operations and dependences." */
    private static void withoutOperationsAndDependences() {
        LoopScheduler x = new LoopScheduler();
        checks.equal("operations", x.operationCount(), 0);
        checks.equal("dependences", x.dependenceCount(), 0);
        checks.equal("resource bound", x.resourceBound(), 1);
        checks.equal("recurrence bound", x.recurrenceBound(), 1);
        checks.equal("attempts", x.attempts(), 0);
        checks.isFalse("schedule", x.hasSchedule());
        checks.equal("digest", x.digest(), Checks.digestOf(1, 1, 1, 0, 0, 0));
        checks.refuses("height", INDEX, LoopScheduler::new, y -> y.height(0, 1));
        checks.refuses("setDelay", INDEX, LoopScheduler::new, y -> y.setDelay(0, 0));
    }

    /** "There are at most 14 operations, numbered from 0 in the order of their creation." */
    private static void atMost14Operations() {
        LoopScheduler x = new LoopScheduler();
        for (int i = 0; i < 14; i++) {
            checks.equal("number of an operation", x.addOperation(2 - i % 3, 4 - i % 4), i);
            checks.equal("operations then", x.operationCount(), i + 1);
        }
        checks.equal("kinds and busy cycles in this order", x.digest(), Checks.digestOf(1, 1, 1, 14, 2, 4, 1, 3, 0, 2,
                2, 1, 1, 4, 0, 3, 2, 2, 1, 1, 0, 4, 2, 3, 1, 2, 0, 1, 2, 4, 1, 3, 0, 0));
        Checks.Maker fourteen = () -> Samples.operations(14, 0, 1);
        checks.refuses("the 15th", STATE, fourteen, y -> y.addOperation(0, 1));
        checks.equal("the 14th is as good", x.addDependence(13, 13, 12, 3), 0);
        checks.equal("height of the 14th", x.height(13, 4), 0);
        LoopScheduler alike = fourteen.make();
        checks.equal("schedule of the 14", alike.schedule(200), 14);
        checks.equal("time of the 14th", alike.time(13), 13);
    }

    /** "An operation has a kind, 0 to 2, and is busy for 1 to 4 cycles." */
    private static void kindsAndBusyCycles() {
        LoopScheduler x = new LoopScheduler();
        for (int kind = 0; kind <= 2; kind++) {
            for (int busy = 1; busy <= 4; busy++) {
                checks.equal("a kind and busy cycles", x.addOperation(kind, busy), 4 * kind + busy - 1);
            }
        }
        checks.equal("all of them", x.digest(), Checks.digestOf(1, 1, 1, 12, 0, 1, 0, 2, 0, 3, 0, 4,
                1, 1, 1, 2, 1, 3, 1, 4, 2, 1, 2, 2, 2, 3, 2, 4, 0, 0));
    }

    /** "For each kind there are some units, 1 to 3, 1 at first." */
    private static void units() {
        LoopScheduler x = new LoopScheduler();
        for (int kind = 0; kind <= 2; kind++) {
            checks.equal("units at first", x.setUnits(kind, 3), 1);
            checks.equal("most units", x.setUnits(kind, 1), 3);
            checks.equal("fewest units", x.setUnits(kind, kind + 1), 1);
        }
        checks.equal("units of each kind", x.digest(), Checks.digestOf(1, 2, 3, 0, 0, 0));
    }

    /** "There are at most 40 dependences, numbered from 0 in the order of their creation." */
    private static void atMost40Dependences() {
        LoopScheduler x = Samples.operations(1, 0, 1);
        for (int k = 0; k < 40; k++) {
            checks.equal("number of a dependence", x.addDependence(0, 0, k % 13, 3), k);
            checks.equal("dependences then", x.dependenceCount(), k + 1);
        }
        for (int k = 0; k < 40; k++) {
            checks.equal("delay of that number", x.setDelay(k, 12), k % 13);
        }
        checks.refuses("the 41st", STATE, Samples::fullLoop, y -> y.addDependence(0, 0, 0, 0));
        checks.refuses("the delay of the 41st", INDEX, Samples::fullLoop, y -> y.setDelay(40, 0));
    }

    /** "A dependence leads from an operation to an operation (also the same one)" */
    private static void alsoTheSameOne() {
        LoopScheduler x = Samples.operations(14, 0, 1);
        checks.equal("the first to itself", x.addDependence(0, 0, 1, 1), 0);
        checks.equal("the last to itself", x.addDependence(13, 13, 2, 2), 1);
        checks.equal("the first to the last", x.addDependence(0, 13, 3, 3), 2);
        checks.equal("the last to the first", x.addDependence(13, 0, 4, 1), 3);
        checks.equal("the same once more", x.addDependence(13, 0, 4, 1), 4);
    }

    /** "with a delay from 0 to 12 and a distance from 0 to 3" */
    private static void delaysAndDistances() {
        LoopScheduler x = Samples.operations(2, 0, 1);
        checks.equal("least", x.addDependence(0, 1, 0, 0), 0);
        checks.equal("greatest delay", x.addDependence(0, 1, 12, 0), 1);
        checks.equal("greatest distance", x.addDependence(0, 1, 0, 3), 2);
        checks.equal("greatest", x.addDependence(0, 1, 12, 3), 3);
        checks.equal("all of them", x.digest(), Checks.digestOf(1, 1, 1, 2, 0, 1, 0, 1,
                4, 0, 1, 0, 0, 0, 1, 12, 0, 0, 1, 0, 3, 0, 1, 12, 3, 0));
    }

    /** setUnits: "Returns the number before." Also where it stays. */
    private static void theNumberBefore() {
        LoopScheduler x = new LoopScheduler();
        checks.equal("1 to 1", x.setUnits(2, 1), 1);
        checks.equal("1 to 3", x.setUnits(2, 3), 1);
        checks.equal("3 to 3", x.setUnits(2, 3), 3);
        checks.equal("3 to 2", x.setUnits(2, 2), 3);
        checks.equal("another kind", x.setUnits(1, 3), 1);
    }

    /** setDelay: "Returns the delay before.", for the first and the last dependence and both ends of delays. */
    private static void theDelayBefore() {
        LoopScheduler x = Samples.fullLoop();
        for (int dependence : new int[] {0, 39}) {
            checks.equal("1 to 12", x.setDelay(dependence, 12), 1);
            checks.equal("12 to 12", x.setDelay(dependence, 12), 12);
            checks.equal("12 to 0", x.setDelay(dependence, 0), 12);
            checks.equal("0 to 0", x.setDelay(dependence, 0), 0);
        }
        checks.equal("those between stay", x.setDelay(1, 1) + x.setDelay(38, 1), 2);
    }

    /** "Every change of the loop (other than move) removes the schedule" */
    private static void aChangeRemovesTheSchedule() {
        isRemoved("setUnits", x -> x.setUnits(1, 2));
        isRemoved("addOperation", x -> x.addOperation(0, 1));
        isRemoved("addDependence", x -> x.addDependence(0, 1, 2, 0));
        isRemoved("setDelay", x -> x.setDelay(0, 1));
        LoopScheduler moved = Samples.scheduledSix();
        checks.isTrue("a move", moved.move(0, 1));
        checks.isTrue("not move", moved.hasSchedule());
        LoopScheduler nothing = Samples.scheduledNothing();
        nothing.addOperation(0, 1);
        checks.isFalse("the first operation", nothing.hasSchedule());
    }

    private static void isRemoved(String what, Checks.CallOf change) {
        LoopScheduler x = Samples.scheduledRing();
        change.answer(x);
        checks.isFalse(what + " removes the schedule", x.hasSchedule());
        checks.equal(what + " leaves no interval", x.schedule(1), -1);
        LoopScheduler again = Samples.scheduledRing();
        change.answer(again);
        again.schedule(200);
        checks.isTrue(what + ", then another schedule", again.hasSchedule());
    }

    /** "even if it changes nothing" */
    private static void aChangeOfNothingRemovesTheSchedule() {
        for (int kind = 0; kind <= 2; kind++) {
            int same = kind;
            isRemoved("the same units of the kind " + kind, x -> x.setUnits(same, 1));
        }
        int[] delays = {2, 4, 1, 1};
        for (int k = 0; k < 4; k++) {
            int same = k;
            isRemoved("the same delay of " + k, x -> x.setDelay(same, delays[same]));
        }
        isRemoved("a dependence that asks nothing", x -> x.addDependence(2, 2, 0, 3));
        LoopScheduler nothing = Samples.scheduledNothing();
        nothing.setUnits(0, 1);
        checks.isFalse("the same units without operations", nothing.hasSchedule());
        LoopScheduler moved = Samples.scheduledRing();
        checks.isTrue("a move to the same time", moved.move(0, 0));
        checks.isTrue("is none of them", moved.hasSchedule());
    }

    /** "A method that throws an exception changes nothing": no number is used up, the next one is right. */
    private static void aRefusedChangeIsNone() {
        LoopScheduler x = Samples.scheduledRing();
        checks.same("refused", Checks.outcome(() -> x.addOperation(0, 5)), "throws.IllegalArgumentException");
        checks.same("refused", Checks.outcome(() -> x.addDependence(0, 4, 1, 1)), "throws.IndexOutOfBoundsException");
        checks.same("refused", Checks.outcome(() -> x.setDelay(0, 13)), "throws.IllegalArgumentException");
        checks.same("refused", Checks.outcome(() -> x.setUnits(0, 4)), "throws.IllegalArgumentException");
        checks.isTrue("the schedule stays", x.hasSchedule());
        checks.equal("the next operation", x.addOperation(0, 4), 4);
        checks.equal("the next dependence", x.addDependence(0, 4, 1, 1), 4);
        checks.equal("the delay before", x.setDelay(0, 12), 2);
        checks.equal("the units before", x.setUnits(0, 3), 1);
    }

    /** resourceBound: "the greatest one of 1 and .." */
    private static void resourceBoundIsAtLeastOne() {
        LoopScheduler x = new LoopScheduler();
        checks.equal("no operations", x.resourceBound(), 1);
        x.setUnits(0, 3);
        x.addOperation(0, 1);
        checks.equal("a third of 1", x.resourceBound(), 1);
    }

    /** resourceBound: "divided by its units, rounded up": around each multiple of the units. */
    private static void resourceBoundIsRoundedUp() {
        int[][] due = {{1, 2, 3, 4, 5, 6, 7}, {1, 1, 2, 2, 3, 3, 4}, {1, 1, 1, 2, 2, 2, 3}};
        for (int units = 1; units <= 3; units++) {
            LoopScheduler x = new LoopScheduler();
            x.setUnits(1, units);
            for (int sum = 1; sum <= 7; sum++) {
                x.addOperation(1, 1);
                checks.equal(sum + " by " + units, x.resourceBound(), due[units - 1][sum - 1]);
            }
        }
    }

    /** resourceBound: "the greatest one of .. over all kinds" */
    private static void resourceBoundOverAllKinds() {
        for (int kind = 0; kind <= 2; kind++) {
            LoopScheduler x = new LoopScheduler();
            for (int other = 0; other <= 2; other++) {
                x.addOperation(other, 2);
            }
            x.addOperation(kind, 1);
            checks.equal("the kind " + kind, x.resourceBound(), 3);
            x.setUnits(kind, 2);
            checks.equal("the other kinds", x.resourceBound(), 2);
        }
    }

    /** The most operations, each busy as long as can be, on the fewest units. */
    private static void greatestResourceBound() {
        for (int kind = 0; kind <= 2; kind++) {
            LoopScheduler x = Samples.operations(14, kind, 4);
            checks.equal("56 by 1", x.resourceBound(), 56);
            x.setUnits(kind, 2);
            checks.equal("56 by 2", x.resourceBound(), 28);
            x.setUnits(kind, 3);
            checks.equal("56 by 3", x.resourceBound(), 19);
        }
    }

    /** recurrenceBound: "the least interval T from 1 to 200": 1 where nothing binds. */
    private static void recurrenceBoundFromOne() {
        checks.equal("no operations", new LoopScheduler().recurrenceBound(), 1);
        checks.equal("no dependences", Samples.operations(14, 0, 4).recurrenceBound(), 1);
        LoopScheduler x = Samples.operations(1, 0, 1);
        x.addDependence(0, 0, 0, 3);
        checks.equal("0 over 3", x.recurrenceBound(), 1);
        x.setDelay(0, 3);
        checks.equal("3 over 3", x.recurrenceBound(), 1);
        x.setDelay(0, 4);
        checks.equal("4 over 3", x.recurrenceBound(), 2);
    }

    /** recurrenceBound: "no closed way .. has a sum .. that is greater than 0": a sum of 0 is none. */
    private static void sumsNotGreaterThanZero() {
        for (int distance = 1; distance <= 3; distance++) {
            LoopScheduler x = Samples.operations(1, 0, 1);
            x.addDependence(0, 0, 0, distance);
            for (int delay = 0; delay <= 12; delay++) {
                x.setDelay(0, delay);
                int least = 1;
                while (delay - least * distance > 0) {
                    least++;
                }
                checks.equal(delay + " over " + distance, x.recurrenceBound(), least);
            }
        }
        LoopScheduler zero = Samples.operations(1, 0, 1);
        zero.addDependence(0, 0, 0, 0);
        checks.equal("0 over 0", zero.recurrenceBound(), 1);
    }

    /** recurrenceBound: "-1 if there is none": a sum above 0 over the distance 0, on a short way and on the longest. */
    private static void recurrenceBoundOfNoInterval() {
        LoopScheduler self = Samples.operations(1, 0, 1);
        self.addDependence(0, 0, 1, 0);
        checks.equal("1 over 0 to itself", self.recurrenceBound(), -1);
        self.setDelay(0, 0);
        checks.equal("0 over 0 to itself", self.recurrenceBound(), 1);
        LoopScheduler x = Samples.operations(14, 0, 1);
        for (int i = 0; i < 14; i++) {
            x.addDependence(i, (i + 1) % 14, 0, 0);
        }
        checks.equal("0 over 0 round all", x.recurrenceBound(), 1);
        for (int k = 0; k < 14; k++) {
            x.setDelay(k, 1);
            checks.equal("1 over 0 round all", x.recurrenceBound(), -1);
            x.setDelay(k, 0);
        }
        checks.equal("0 over 0 again", x.recurrenceBound(), 1);
    }

    /** The greatest bound that is possible: all 14 delays of 12 over the distance 1. */
    private static void greatestRecurrenceBound() {
        LoopScheduler x = Samples.operations(14, 0, 1);
        for (int i = 13; i >= 0; i--) {
            x.addDependence(i, (i + 1) % 14, 12, i == 6 ? 1 : 0);
        }
        checks.equal("168 over 1", x.recurrenceBound(), 168);
        checks.equal("height at it, from behind the distance", x.height(7, 168), 156);
        checks.equal("height at it, from before the distance", x.height(6, 168), 0);
        checks.equal("schedule at it", x.schedule(168), 168);
        checks.equal("attempts", x.attempts(), 1);
        checks.equal("time of the first", x.time(7), 0);
        checks.equal("time of the last", x.time(6), 156);
        checks.equal("last row", x.live(167), 1);
        x.setDelay(0, 11);
        checks.equal("167 over 1", x.recurrenceBound(), 167);
    }

    /** recurrenceBound: "no closed way": a way that does not come back may have any sum. */
    private static void openWaysDoNotBind() {
        LoopScheduler x = Samples.operations(14, 0, 1);
        for (int i = 0; i < 13; i++) {
            x.addDependence(i, i + 1, 12, 0);
        }
        checks.equal("156 over 0, open", x.recurrenceBound(), 1);
        x.addDependence(13, 0, 0, 3);
        checks.equal("156 over 3, closed", x.recurrenceBound(), 52);
        x.setDelay(13, 1);
        checks.equal("157 over 3, closed", x.recurrenceBound(), 53);
    }

    /** The 40th dependence counts as the others do. */
    private static void theLastDependenceBinds() {
        LoopScheduler x = Samples.operations(2, 0, 1);
        for (int k = 0; k < 39; k++) {
            x.addDependence(0, 1, 1, 0);
        }
        checks.equal("39 dependences", x.recurrenceBound(), 1);
        x.addDependence(1, 0, 12, 1);
        checks.equal("the 40th closes the way", x.recurrenceBound(), 13);
        checks.equal("height over the 40th", x.height(1, 13), 0);
        checks.equal("height over the 39th", x.height(0, 13), 1);
        checks.equal("schedule", x.schedule(200), 13);
        checks.equal("lifetime over the 40th", x.lifetime(1), 12);
        x.setDelay(39, 0);
        x.setDelay(38, 12);
        checks.equal("the 39th is the longest", x.height(0, 12), 12);
    }

    /** Search: "(a way can be without dependences; then the sum is 0)": no height is below 0. */
    private static void aWayWithoutDependences() {
        LoopScheduler x = Samples.operations(3, 0, 1);
        checks.equal("no dependences", x.height(2, 1), 0);
        x.addDependence(0, 1, 5, 1);
        checks.equal("5 - 4", x.height(0, 4), 1);
        checks.equal("5 - 5", x.height(0, 5), 0);
        checks.equal("5 - 6", x.height(0, 6), 0);
        checks.equal("5 - 200", x.height(0, 200), 0);
        x.addDependence(1, 2, 3, 0);
        checks.equal("5 - 6 + 3", x.height(0, 6), 2);
        checks.equal("5 - 8 + 3", x.height(0, 8), 0);
        checks.equal("the last one", x.height(2, 6), 0);
    }

    /** Ways that go round a closed one with the sum 0 have no greater sum for it. */
    private static void heightsOverSumsOfZero() {
        LoopScheduler x = Samples.operations(2, 0, 1);
        x.addDependence(0, 1, 5, 0);
        x.addDependence(1, 0, 0, 1);
        checks.equal("the bound", x.recurrenceBound(), 5);
        checks.equal("height of 0", x.height(0, 5), 5);
        checks.equal("height of 1", x.height(1, 5), 0);
        x.addDependence(1, 1, 0, 0);
        checks.equal("also over 0 and 0", x.height(1, 5), 0);
    }

    /** The longest way without a circle has 13 dependences; these are told from its beginning on, then from its end. */
    private static void heightsOfTheLongestWay() {
        LoopScheduler forth = Samples.operations(14, 0, 1);
        LoopScheduler back = Samples.operations(14, 0, 1);
        for (int i = 0; i < 13; i++) {
            forth.addDependence(i, i + 1, 12, 0);
            back.addDependence(i + 1, i, 12, 0);
        }
        for (int i = 0; i < 14; i++) {
            checks.equal("height on the way", forth.height(i, 1), 12 * (13 - i));
            checks.equal("height on the way back", back.height(i, 200), 12 * i);
        }
    }

    /** height: "if interval is not recurrenceBound() to 200": both ends are allowed, also below the other bound. */
    private static void heightAtTheBoundAndAt200() {
        LoopScheduler ring = Samples.ring();
        checks.equal("the bound", ring.recurrenceBound(), 4);
        checks.equal("height at the bound", ring.height(0, 4), 7);
        checks.equal("height at 200", ring.height(0, 200), 7);
        LoopScheduler many = Samples.operations(14, 0, 4);
        checks.equal("height at 1, though 56 cycles are busy", many.height(13, 1), 0);
        LoopScheduler x = Samples.operations(2, 0, 1);
        x.addDependence(1, 0, 12, 3);
        checks.equal("height at 1", x.height(1, 1), 9);
        checks.equal("height at 3", x.height(1, 3), 3);
    }
}
