/**
 * The sentences about schedules and the search (promises 11 to 19) that name a boundary: a test for each, which holds
 * what is allowed and what is just behind it. Every refused argument stands in RefusalTest.
 */
final class ScheduleEdgesTest {
    private static final Checks checks = new Checks("ScheduleEdgesTest");

    public static void main(String[] args) {
        anIntervalOfOne();
        aTimeOfZero();
        aDependenceJustKept();
        aDependenceOverADistanceJustKept();
        rowsComeRound();
        aRowTakenTwice();
        noMoreUnitsThanThereAre();
        greaterHeightsFirst();
        heightsOfTheAttempt();
        smallerNumbersFirst();
        noEarlierThanZero();
        earliestFromPlacedOnes();
        theGreatestOfTheEarliest();
        latestOfPlacedOnes();
        theLeastOfTheLatest();
        noTimeBetween();
        theLastTimeOfTheWindow();
        noTimeAtAll();
        allOperationsArePlaced();
        fromTheGreaterBoundOn();
        untilOneSucceeds();
        theGreatestHasBeenTried();
        noAttemptWithoutABound();
        theEndsOfGreatest();
        attemptsOfTheLatestCall();
        whetherThereIsASchedule();
        theEndsOfMove();
        whetherItHasThisTime();
        otherwiseNothingChanges();
        freedomFromZero();
        freedomToThousand();
        freedomIfNoOtherMoves();
        stagesRoundedDown();
        noStagesWithoutOperations();
        theEndsOfRows();
        takenByAll();
        checks.finish();
    }

    /** "A schedule has an interval T, at least 1" */
    private static void anIntervalOfOne() {
        LoopScheduler x = Samples.operations(3, 0, 1);
        x.setUnits(0, 3);
        x.addDependence(0, 1, 3, 0);
        x.addDependence(1, 0, 0, 3);
        checks.equal("interval", x.schedule(1), 1);
        checks.equal("interval of it", x.interval(), 1);
        checks.times("all in one row", x, 0, 3, 0);
        checks.equal("the row", x.taken(0, 0), 3);
        checks.isFalse("later than the way back allows", x.move(1, 4));
        checks.isTrue("the third alone", x.move(2, 1000));
    }

    /** "and a time for each operation, at least 0": a long distance back does not lead below 0. */
    private static void aTimeOfZero() {
        LoopScheduler x = Samples.operations(2, 0, 1);
        x.addDependence(0, 1, 0, 3);
        checks.equal("schedule", x.schedule(2), 2);
        checks.times("not before 0", x, 0, 1);
        LoopScheduler y = Samples.operations(2, 1, 1);
        y.setUnits(1, 2);
        y.addDependence(0, 1, 12, 3);
        checks.equal("schedule at 1", y.schedule(1), 1);
        checks.times("12 - 3", y, 0, 9);
        y.setDelay(0, 2);
        checks.equal("schedule at 1 again", y.schedule(1), 1);
        checks.times("2 - 3", y, 0, 0);
    }

    /** Valid: "is at least the time .. plus its delay": just that is enough, one less is not. */
    private static void aDependenceJustKept() {
        for (int delay : new int[] {0, 1, 12}) {
            LoopScheduler x = Samples.operations(2, 0, 1);
            x.setUnits(0, 2);
            x.addDependence(0, 1, delay, 0);
            x.schedule(200);
            x.move(1, 500);
            checks.isFalse("one too late", x.move(0, 501 - delay));
            checks.isTrue("just in time", x.move(0, 500 - delay));
            checks.isFalse("one too soon", x.move(1, 499));
            checks.isTrue("just as it is", x.move(1, 500));
            checks.isTrue("one later", x.move(1, 501));
        }
    }

    /** Valid: "plus T * distance": each distance gives as many intervals. */
    private static void aDependenceOverADistanceJustKept() {
        for (int distance = 0; distance <= 3; distance++) {
            LoopScheduler x = Samples.operations(1, 0, 1);
            x.addOperation(1, 1);
            x.addDependence(0, 0, 7, 1);
            x.addDependence(0, 1, 9, distance);
            checks.equal("interval", x.schedule(200), 7);
            x.move(1, 700);
            int latest = 700 + 7 * distance - 9;
            checks.isFalse("one too late", x.move(0, latest + 1));
            checks.isTrue("just in time", x.move(0, latest));
            checks.equal("the times up to it", x.freedom(0), latest + 1);
            checks.isFalse("one too soon", x.move(1, 699));
        }
    }

    /** "takes one unit of its kind in each of the rows t mod T, .., (t + b - 1) mod T" */
    private static void rowsComeRound() {
        for (int busy = 1; busy <= 4; busy++) {
            LoopScheduler x = Samples.operations(1, 2, busy);
            x.addDependence(0, 0, 5, 1);
            checks.equal("interval", x.schedule(200), 5);
            for (int time : new int[] {0, 1, 2, 3, 4, 5, 9, 999, 1000}) {
                checks.isTrue("alone", x.move(0, time));
                for (int row = 0; row < 5; row++) {
                    boolean due = (row - time % 5 + 5) % 5 < busy;
                    checks.equal("row " + row + " from " + time, x.taken(row, 2), due ? 1 : 0);
                }
            }
        }
    }

    /** "(a row that is told twice here is taken twice)" */
    private static void aRowTakenTwice() {
        LoopScheduler x = Samples.operations(1, 1, 3);
        x.setUnits(1, 3);
        checks.equal("three times at 1", x.schedule(200), 1);
        checks.equal("taken", x.taken(0, 1), 3);
        x.setUnits(1, 2);
        checks.equal("twice at 2", x.schedule(200), 2);
        checks.equal("taken twice", x.taken(0, 1), 2);
        checks.equal("taken once", x.taken(1, 1), 1);
        x.setUnits(1, 1);
        checks.equal("once at 3", x.schedule(200), 3);
        LoopScheduler four = Samples.operations(2, 0, 4);
        four.setUnits(0, 3);
        checks.equal("8 by 3", four.resourceBound(), 3);
        checks.equal("rows 0 and 1 twice", four.schedule(200), 3);
        checks.times("each begins in a row of its own", four, 0, 1);
        four.addOperation(0, 1);
        checks.equal("all three rows full", four.schedule(3), 3);
        checks.times("the last in the last row", four, 0, 1, 2);
        checks.isFalse("a row that is taken twice and once", four.move(2, 0));
    }

    /** "In each row, of each kind, no more units are taken than there are": as many are. */
    private static void noMoreUnitsThanThereAre() {
        for (int units = 1; units <= 3; units++) {
            LoopScheduler x = Samples.operations(units + 1, 1, 1);
            x.setUnits(1, units);
            checks.equal("one too many for 1", x.schedule(200), 2);
            checks.equal("the full row", x.taken(0, 1), units);
            checks.equal("the other row", x.taken(1, 1), 1);
            checks.isFalse("one more", x.move(units, 0));
            checks.isFalse("one more in a later interval", x.move(units, 10));
            int room = units > 1 ? 1 : 0;
            checks.equal("to the other row", Checks.number(x.move(0, 1)), room);
            checks.equal("then one more", Checks.number(x.move(units, 10)), room);
        }
    }

    /** "those with greater heights first" */
    private static void greaterHeightsFirst() {
        LoopScheduler x = Samples.operations(3, 0, 1);
        x.addOperation(1, 1);
        x.addDependence(0, 3, 1, 0);
        x.addDependence(1, 3, 3, 0);
        x.addDependence(2, 3, 2, 0);
        checks.equal("schedule", x.schedule(200), 3);
        checks.times("3, 2, 1", x, 2, 0, 1, 3);
    }

    /** "The height .. over the dependences": with the interval of the attempt, not of another one. */
    private static void heightsOfTheAttempt() {
        LoopScheduler x = Samples.operations(2, 0, 1);
        x.addDependence(1, 0, 3, 1);
        checks.equal("at 2", x.schedule(200), 2);
        checks.times("height 1 first", x, 1, 0);
        x.addOperation(1, 4);
        checks.equal("at 4", x.schedule(200), 4);
        checks.times("heights 0 and 0", x, 0, 1, 0);
    }

    /** "of equal ones those with smaller numbers first": for 0 as for greater heights. */
    private static void smallerNumbersFirst() {
        LoopScheduler x = Samples.operations(14, 0, 1);
        x.schedule(200);
        for (int i = 0; i < 14; i++) {
            checks.equal("the height 0", x.time(i), i);
        }
        LoopScheduler y = Samples.operations(4, 0, 1);
        y.addOperation(1, 1);
        for (int i = 3; i >= 0; i--) {
            y.addDependence(i, 4, 7, 0);
        }
        y.schedule(200);
        checks.times("the height 7", y, 0, 1, 2, 3, 10);
    }

    /** "let e be the greatest one of 0 and .." */
    private static void noEarlierThanZero() {
        for (int delay = 2; delay <= 4; delay++) {
            LoopScheduler x = Samples.operations(1, 0, 1);
            x.addOperation(1, 3);
            x.addDependence(0, 1, delay, 1);
            checks.equal("schedule", x.schedule(200), 3);
            checks.times(delay + " - 3", x, 0, delay == 4 ? 1 : 0);
        }
    }

    /** "over all dependences that lead to it from operations that are placed already": the others do not count. */
    private static void earliestFromPlacedOnes() {
        LoopScheduler self = Samples.operations(1, 0, 1);
        self.addDependence(0, 0, 12, 1);
        checks.equal("to itself", self.schedule(200), 12);
        checks.times("not from itself", self, 0);
        LoopScheduler x = Samples.operations(2, 0, 1);
        x.addOperation(1, 4);
        x.addDependence(1, 0, 3, 1);
        checks.equal("schedule", x.schedule(200), 4);
        checks.times("0 does not wait for 1", x, 0, 1, 0);
    }

    /** "the greatest one of .. the time of that operation + delay - T * distance" */
    private static void theGreatestOfTheEarliest() {
        LoopScheduler x = new LoopScheduler();
        x.addOperation(0, 1);
        x.addOperation(1, 1);
        x.addOperation(2, 1);
        x.addOperation(2, 1);
        x.addDependence(0, 2, 5, 0);
        x.addDependence(1, 2, 7, 0);
        x.addDependence(0, 2, 6, 0);
        x.addDependence(0, 2, 9, 1);
        x.addDependence(2, 3, 1, 0);
        checks.equal("schedule", x.schedule(200), 2);
        checks.times("5, 7, 6, 9 - 2", x, 0, 0, 7, 8);
        x.setDelay(3, 10);
        x.schedule(200);
        checks.times("5, 7, 6, 10 - 2", x, 0, 0, 8, 9);
        x.setDelay(0, 12);
        x.schedule(200);
        checks.times("12, 7, 6, 10 - 2", x, 0, 0, 12, 13);
    }

    /** "the first one .. that is not greater than l": l itself will do, one less will not. */
    private static void latestOfPlacedOnes() {
        LoopScheduler x = Samples.operations(2, 0, 1);
        x.addDependence(1, 0, 1, 1);
        checks.equal("l is 0 - 1 + 2", x.schedule(200), 2);
        checks.times("at l", x, 0, 1);
        checks.equal("one attempt", x.attempts(), 1);
        x.setDelay(0, 2);
        checks.equal("l is 0 - 2 + 2, then 0 - 2 + 3", x.schedule(200), 3);
        checks.times("at l again", x, 0, 1);
        checks.equal("two attempts", x.attempts(), 2);
        LoopScheduler none = Samples.operations(2, 0, 1);
        none.addDependence(1, 0, 0, 0);
        checks.equal("l is 0 at each interval", none.schedule(200), -1);
        checks.equal("attempts from 2 to 200", none.attempts(), 199);
    }

    /** "let l be the least one .. of the time of that operation - delay + T * distance" */
    private static void theLeastOfTheLatest() {
        LoopScheduler x = Samples.operations(3, 0, 1);
        x.addDependence(2, 0, 4, 2);
        x.addDependence(2, 1, 2, 1);
        x.addDependence(2, 0, 1, 1);
        checks.equal("l is 2, 2, 2", x.schedule(200), 3);
        checks.times("at 2", x, 0, 1, 2);
        x.setDelay(0, 5);
        checks.equal("l is 1, 2, 2, then 3, 3, 3", x.schedule(200), 4);
        x.setDelay(0, 4);
        x.setDelay(1, 3);
        checks.equal("l is 2, 1, 2, then 4, 2, 3", x.schedule(200), 4);
        x.setDelay(1, 2);
        x.setDelay(2, 2);
        checks.equal("l is 2, 2, 1, then 4, 3, 2", x.schedule(200), 4);
        checks.equal("attempts at 3 and 4", x.attempts(), 2);
        checks.times("at 2 again", x, 0, 1, 2);
    }

    /** "If there is none, the attempt fails": e is greater than l, though every unit is free. */
    private static void noTimeBetween() {
        LoopScheduler x = new LoopScheduler();
        x.addOperation(0, 1);
        x.addOperation(1, 1);
        x.addOperation(2, 1);
        x.addDependence(2, 1, 5, 0);
        x.addDependence(1, 0, 1, 1);
        checks.equal("both bounds", x.resourceBound() + x.recurrenceBound(), 2);
        checks.equal("e is 5, l is 0 to 4", x.schedule(5), -1);
        checks.equal("attempts from 1 to 5", x.attempts(), 5);
        checks.equal("e is 5, l is 5", x.schedule(6), 6);
        checks.equal("attempts from 1 to 6", x.attempts(), 6);
        checks.times("at both", x, 0, 5, 0);
    }

    /** "the first one of the times e, e + 1, .., e + T - 1": the last of them is one. */
    private static void theLastTimeOfTheWindow() {
        LoopScheduler x = Samples.operations(3, 0, 1);
        x.addDependence(0, 2, 6, 0);
        checks.equal("schedule", x.schedule(200), 3);
        checks.times("6 and 7 are taken", x, 0, 1, 8);
        LoopScheduler wide = Samples.operations(14, 1, 4);
        checks.equal("the widest", wide.schedule(56), 56);
        checks.equal("the last one", wide.time(13), 52);
        LoopScheduler tight = Samples.operations(14, 1, 4);
        tight.setUnits(1, 2);
        checks.equal("two at once", tight.schedule(28), 28);
        checks.equal("the last two", tight.time(12) + tight.time(13), 48);
    }

    /** "If there is none, the attempt fails": units are free in no row of the window, though enough are free in all. */
    private static void noTimeAtAll() {
        LoopScheduler x = Samples.operations(2, 0, 1);
        x.addOperation(1, 1);
        x.addOperation(0, 2);
        x.addDependence(0, 2, 9, 0);
        x.addDependence(1, 2, 8, 0);
        x.addDependence(0, 1, 2, 0);
        checks.equal("4 by 1", x.resourceBound(), 4);
        checks.equal("the rows 0 and 2 are taken", x.schedule(4), -1);
        checks.equal("one attempt", x.attempts(), 1);
        checks.equal("3 and 4 are free", x.schedule(5), 5);
        checks.times("two in a row", x, 0, 2, 10, 3);
    }

    /** "If all operations are placed, the attempt succeeds": also if there are none. */
    private static void allOperationsArePlaced() {
        LoopScheduler x = new LoopScheduler();
        checks.equal("none", x.schedule(200), 1);
        checks.equal("one attempt", x.attempts(), 1);
        checks.isTrue("a schedule", x.hasSchedule());
        LoopScheduler all = Samples.fullLoop();
        checks.equal("14", all.schedule(200), 5);
        for (int i = 0; i < 14; i++) {
            checks.equal("placed", all.time(i), i);
        }
    }

    /** schedule: "from the greater one of both bounds on" */
    private static void fromTheGreaterBoundOn() {
        LoopScheduler x = Samples.operations(3, 0, 1);
        x.addDependence(0, 0, 2, 1);
        checks.equal("the resources ask more", x.schedule(200), 3);
        checks.equal("one attempt", x.attempts(), 1);
        x.setDelay(0, 3);
        checks.equal("both ask as much", x.schedule(200), 3);
        checks.equal("one attempt again", x.attempts(), 1);
        x.setDelay(0, 4);
        checks.equal("the recurrences ask more", x.schedule(200), 4);
        checks.equal("one attempt still", x.attempts(), 1);
    }

    /** schedule: "in ascending order, until one succeeds" */
    private static void untilOneSucceeds() {
        LoopScheduler x = new LoopScheduler();
        x.addOperation(0, 1);
        x.addOperation(1, 1);
        x.addOperation(2, 1);
        x.addDependence(2, 1, 12, 0);
        x.addDependence(1, 0, 1, 1);
        checks.equal("the first that succeeds", x.schedule(200), 13);
        checks.equal("attempts from 1 to 13", x.attempts(), 13);
        checks.times("its times", x, 0, 12, 0);
        checks.equal("none behind it is tried", x.schedule(13), 13);
        checks.equal("as many attempts", x.attempts(), 13);
        checks.equal("one fewer", x.schedule(12), -1);
        checks.equal("attempts from 1 to 12", x.attempts(), 12);
    }

    /** schedule: "or the greatest one has been tried (then there is no schedule)" */
    private static void theGreatestHasBeenTried() {
        LoopScheduler x = Samples.operations(2, 0, 1);
        x.addDependence(1, 0, 2, 1);
        checks.equal("found at the greatest", x.schedule(3), 3);
        checks.isTrue("a schedule", x.hasSchedule());
        checks.equal("not found at the greatest", x.schedule(2), -1);
        checks.equal("one attempt", x.attempts(), 1);
        checks.isFalse("then there is none", x.hasSchedule());
        x.schedule(3);
        checks.equal("the greatest is below the bounds", x.schedule(1), -1);
        checks.equal("no attempt", x.attempts(), 0);
        checks.isFalse("then there is none either", x.hasSchedule());
        checks.equal("no interval in the digest", x.digest(),
                Checks.digestOf(1, 1, 1, 2, 0, 1, 0, 1, 1, 1, 0, 2, 1, 0));
    }

    /** schedule: "If recurrenceBound() is -1, no attempt is made." */
    private static void noAttemptWithoutABound() {
        LoopScheduler x = Samples.impossiblePair();
        checks.equal("with a bound", x.schedule(200), -1);
        checks.equal("attempts", x.attempts(), 199);
        x.setDelay(1, 1);
        checks.equal("without a bound", x.schedule(200), -1);
        checks.equal("no attempts", x.attempts(), 0);
        checks.isFalse("no schedule", x.hasSchedule());
        x.setDelay(1, 0);
        x.setUnits(1, 2);
        checks.equal("with a bound again", x.schedule(200), 1);
        checks.equal("an attempt", x.attempts(), 1);
    }

    /** schedule: "if greatest is not 1 to 200": both ends are allowed. */
    private static void theEndsOfGreatest() {
        LoopScheduler x = Samples.sixAtOnce();
        checks.equal("to 1", x.schedule(1), 1);
        checks.equal("to 200", x.schedule(200), 1);
        LoopScheduler pair = Samples.impossiblePair();
        checks.equal("to 199", pair.schedule(199), -1);
        checks.equal("attempts to 199", pair.attempts(), 198);
        checks.equal("to 200, failing", pair.schedule(200), -1);
        checks.equal("attempts to 200", pair.attempts(), 199);
    }

    /** "Returns how many attempts the latest call of schedule made." */
    private static void attemptsOfTheLatestCall() {
        LoopScheduler x = Samples.impossiblePair();
        checks.equal("no call", x.attempts(), 0);
        x.schedule(4);
        checks.equal("2 to 4", x.attempts(), 3);
        checks.same("a refused call", Checks.outcome(() -> x.schedule(201)), "throws.IllegalArgumentException");
        checks.equal("made none, and is none", x.attempts(), 3);
        x.addOperation(0, 1);
        checks.equal("a change is no call", x.attempts(), 3);
        x.schedule(2);
        checks.equal("not added up", x.attempts(), 1);
        x.schedule(1);
        checks.equal("none at all", x.attempts(), 0);
    }

    /** "Returns whether there is a schedule." */
    private static void whetherThereIsASchedule() {
        LoopScheduler x = new LoopScheduler();
        checks.isFalse("at first", x.hasSchedule());
        x.schedule(1);
        checks.isTrue("without operations", x.hasSchedule());
        checks.equal("its interval", x.interval(), 1);
        x.addOperation(0, 4);
        checks.isFalse("after a change", x.hasSchedule());
        x.schedule(3);
        checks.isFalse("none was found", x.hasSchedule());
        x.schedule(4);
        checks.isTrue("one was found", x.hasSchedule());
        x.schedule(3);
        checks.isFalse("none was found again", x.hasSchedule());
    }

    /** move: "if time is not 0 to 1000": both ends are allowed. */
    private static void theEndsOfMove() {
        LoopScheduler x = Samples.scheduledSix();
        for (int i = 0; i < 6; i++) {
            checks.isTrue("to 1000", x.move(i, 1000));
            checks.equal("at 1000", x.time(i), 1000);
            checks.isTrue("to 0", x.move(i, 0));
            checks.equal("at 0", x.time(i), 0);
        }
    }

    /** move: "Returns whether it has this time afterwards." */
    private static void whetherItHasThisTime() {
        LoopScheduler x = Samples.scheduledRing();
        int[] times = {0, 2, 6, 7};
        for (int i = 0; i < 4; i++) {
            checks.isTrue("its own time", x.move(i, times[i]));
            checks.isFalse("one later", x.move(i, times[i] + 1));
            checks.isFalse("one interval later", x.move(i, times[i] + 4));
            checks.equal("its time still", x.time(i), times[i]);
        }
        LoopScheduler self = Samples.operations(1, 0, 1);
        self.addDependence(0, 0, 12, 1);
        self.schedule(12);
        checks.isTrue("a dependence to itself stays kept", self.move(0, 7));
        checks.equal("its new time", self.time(0), 7);
    }

    /** move: "if the schedule is valid then; otherwise nothing changes." */
    private static void otherwiseNothingChanges() {
        LoopScheduler x = Samples.scheduledRing();
        String before = Checks.everything(x);
        checks.isFalse("before what it needs", x.move(1, 1));
        checks.isFalse("behind what needs it", x.move(1, 3));
        checks.isFalse("too far", x.move(3, 1000));
        checks.same("nothing changes", Checks.everything(x), before);
        LoopScheduler full = Samples.operations(3, 0, 2);
        full.schedule(6);
        String then = Checks.everything(full);
        for (int time : new int[] {1, 2, 3, 4, 5, 7, 997, 1000}) {
            checks.isFalse("a taken row", full.move(0, time));
        }
        checks.same("nothing changes in full rows", Checks.everything(full), then);
        checks.isTrue("its own rows", full.move(0, 996));
    }

    /** freedom: "the number of times from 0 ..": 0 is one of them. */
    private static void freedomFromZero() {
        LoopScheduler x = Samples.operations(2, 0, 1);
        x.setUnits(0, 2);
        x.addDependence(0, 1, 3, 0);
        x.schedule(1);
        checks.equal("0 alone", x.freedom(0), 1);
        checks.isTrue("one later", x.move(1, 4));
        checks.equal("0 and 1", x.freedom(0), 2);
        checks.isTrue("the latest", x.move(0, 1));
        checks.equal("0 and 1 still", x.freedom(0), 2);
    }

    /** freedom: ".. to 1000": 1000 is one of them, 1001 is none. */
    private static void freedomToThousand() {
        LoopScheduler alone = Samples.operations(1, 0, 1);
        alone.schedule(1);
        checks.equal("all", alone.freedom(0), 1001);
        LoopScheduler x = Samples.operations(2, 0, 1);
        x.setUnits(0, 2);
        x.addDependence(0, 1, 3, 0);
        x.schedule(1);
        checks.equal("3 to 1000", x.freedom(1), 998);
        x.move(1, 1000);
        checks.equal("0 to 997", x.freedom(0), 998);
        x.move(0, 996);
        checks.equal("999 and 1000", x.freedom(1), 2);
        x.move(0, 997);
        checks.equal("1000 alone", x.freedom(1), 1);
        LoopScheduler rows = Samples.operations(2, 0, 1);
        rows.schedule(2);
        checks.equal("0, 2, .. 1000", rows.freedom(0), 501);
        checks.equal("1, 3, .. 999", rows.freedom(1), 500);
    }

    /** freedom: "if no other operation moves": its own units are free for it, those of others are not. */
    private static void freedomIfNoOtherMoves() {
        LoopScheduler x = Samples.operations(2, 0, 2);
        x.schedule(4);
        checks.equal("one row of four", x.freedom(0), 251);
        checks.equal("another row of four", x.freedom(1), 250);
        LoopScheduler y = Samples.operations(1, 0, 4);
        y.setUnits(0, 2);
        y.schedule(2);
        checks.equal("over its own rows", y.freedom(0), 1001);
        LoopScheduler full = Samples.scheduledFullLoop();
        for (int i = 0; i < 13; i++) {
            checks.equal("held on both sides", full.freedom(i), 1);
        }
        String before = Checks.everything(full);
        checks.equal("free behind", full.freedom(13), 396);
        checks.same("nothing moves", Checks.everything(full), before);
    }

    /** stages: "the greatest time of an operation divided by the interval, rounded down, plus 1" */
    private static void stagesRoundedDown() {
        LoopScheduler x = Samples.operations(1, 0, 1);
        x.addDependence(0, 0, 7, 1);
        x.schedule(7);
        int[][] due = {{0, 1}, {6, 1}, {7, 2}, {13, 2}, {14, 3}, {993, 142}, {994, 143}, {1000, 143}};
        for (int[] timeAndStages : due) {
            x.move(0, timeAndStages[0]);
            checks.equal("stages at " + timeAndStages[0], x.stages(), timeAndStages[1]);
        }
        LoopScheduler six = Samples.scheduledSix();
        six.move(3, 1000);
        checks.equal("the most", six.stages(), 1001);
        six.move(2, 999);
        checks.equal("the greatest time", six.stages(), 1001);
    }

    /** stages: "0 if there are no operations" */
    private static void noStagesWithoutOperations() {
        checks.equal("none", Samples.scheduledNothing().stages(), 0);
        LoopScheduler one = Samples.operations(1, 0, 1);
        one.schedule(1);
        checks.equal("one", one.stages(), 1);
    }

    /** taken: "if row is not 0 to the interval minus 1", "if kind is not 0 to 2": the ends are allowed. */
    private static void theEndsOfRows() {
        LoopScheduler x = Samples.operations(14, 2, 4);
        x.schedule(200);
        for (int kind = 0; kind <= 2; kind++) {
            checks.equal("the first row", x.taken(0, kind), kind == 2 ? 1 : 0);
            checks.equal("the last row", x.taken(55, kind), kind == 2 ? 1 : 0);
        }
        LoopScheduler nothing = Samples.scheduledNothing();
        for (int kind = 0; kind <= 2; kind++) {
            checks.equal("the only row", nothing.taken(0, kind), 0);
        }
    }

    /** All kinds full in all rows: 18 busy cycles at the interval 2. */
    private static void takenByAll() {
        LoopScheduler x = new LoopScheduler();
        for (int kind = 0; kind <= 2; kind++) {
            x.setUnits(kind, 3);
            x.addOperation(kind, 4);
            x.addOperation(kind, 2);
        }
        checks.equal("schedule", x.schedule(2), 2);
        for (int kind = 0; kind <= 2; kind++) {
            checks.equal("even row", x.taken(0, kind), 3);
            checks.equal("odd row", x.taken(1, kind), 3);
        }
        checks.isTrue("each can turn", x.move(0, 1));
        checks.equal("freedom of all", x.freedom(1), 1001);
    }
}
