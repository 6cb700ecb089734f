/**
 * The sentences about values (promises 20 to 24) that name a boundary: a test for each, which holds what is just inside
 * and just outside. Every refused argument stands in RefusalTest.
 */
final class ValueEdgesTest {
    private static final Checks checks = new Checks("ValueEdgesTest");

    public static void main(String[] args) {
        endsAtItsTimeAtLeast();
        endsAtTheGreatestUse();
        usesInLaterIterations();
        longestLife();
        beginsAtItsTime();
        endsBeforeItsEnd();
        livesInRowsThatComeRound();
        asOftenAsItLives();
        theEndsOfRows();
        theMostInARow();
        noRegisters();
        atLeastOneCopy();
        copiesAreRoundedUp();
        copiesOfTheFullLoop();
        unrollingOfNoOperations();
        leastCommonMultiple();
        unrollingJustBelowAMillion();
        unrollingAboveAMillion();
        unrollingFarAboveAMillion();
        valuesOfTheScheduleAsItIs();
        checks.finish();
    }

    /** Two operations of different kinds at the interval 5, of which the second uses the value of the first. */
    private static LoopScheduler pair() {
        LoopScheduler x = Samples.operations(1, 0, 1);
        x.addOperation(1, 1);
        x.addDependence(0, 1, 0, 0);
        x.addDependence(1, 1, 5, 1);
        x.schedule(200);
        return x;
    }

    /** "ends at the greatest one of this time and .." */
    private static void endsAtItsTimeAtLeast() {
        LoopScheduler x = Samples.operations(3, 0, 1);
        x.addDependence(1, 2, 0, 0);
        x.schedule(200);
        checks.equal("no use", x.lifetime(0), 0);
        checks.equal("a use one later", x.lifetime(1), 1);
        checks.equal("the last one", x.lifetime(2), 0);
        x.move(0, 999);
        checks.equal("no use at a late time", x.lifetime(0), 0);
        checks.equal("a use at once", pair().lifetime(0), 0);
        LoopScheduler self = Samples.operations(1, 0, 1);
        self.addDependence(0, 0, 0, 0);
        self.schedule(200);
        checks.equal("a use at once by itself", self.lifetime(0), 0);
    }

    /** "the greatest one of .. over all dependences that lead from it" */
    private static void endsAtTheGreatestUse() {
        LoopScheduler x = pair();
        x.addOperation(2, 1);
        x.addDependence(0, 2, 0, 0);
        x.addDependence(0, 1, 0, 1);
        x.addDependence(2, 0, 0, 3);
        x.schedule(200);
        checks.equal("0, 0 and 5", x.lifetime(0), 5);
        x.move(2, 4);
        checks.equal("0, 4 and 5", x.lifetime(0), 5);
        x.move(2, 5);
        checks.equal("0, 5 and 5", x.lifetime(0), 5);
        x.move(2, 6);
        checks.equal("0, 6 and 5", x.lifetime(0), 6);
        checks.equal("its own use, three iterations later", x.lifetime(2), 9);
    }

    /** "the time of the operation to which it leads plus T * distance" */
    private static void usesInLaterIterations() {
        for (int distance = 0; distance <= 3; distance++) {
            LoopScheduler x = Samples.operations(2, 0, 1);
            x.addDependence(0, 1, 0, distance);
            x.addDependence(1, 1, 7, 1);
            x.schedule(200);
            checks.equal("used at once", x.lifetime(0), 7 * distance + x.time(1) - x.time(0));
            checks.equal("used by itself", x.lifetime(1), 7);
        }
        LoopScheduler self = Samples.operations(1, 0, 1);
        self.addDependence(0, 0, 0, 3);
        self.schedule(200);
        checks.equal("used by itself, three later", self.lifetime(0), 3);
    }

    /** From 0 to 1000 and three intervals more. */
    private static void longestLife() {
        LoopScheduler x = Samples.operations(2, 0, 1);
        x.addDependence(0, 1, 0, 3);
        x.addDependence(1, 1, 12, 1);
        checks.equal("interval", x.schedule(200), 12);
        checks.isTrue("the last time", x.move(1, 1000));
        checks.equal("lifetime", x.lifetime(0), 1036);
        checks.equal("copies", x.copies(0), 87);
        checks.equal("registers", x.registers(), 87 + 1);
        checks.equal("in the row 3", x.live(3), 87 + 1);
        checks.equal("in the row 4", x.live(4), 86 + 1);
        checks.equal("in the row 0", x.live(0), 87 + 1);
        checks.equal("in the row 11", x.live(11), 86 + 1);
    }

    /** "The value lives in each cycle from the beginning on" */
    private static void beginsAtItsTime() {
        LoopScheduler x = pair();
        checks.isTrue("used two later", x.move(1, 3) && x.move(0, 1));
        int[] due = {1, 2, 2, 1, 1};
        for (int row = 0; row < 5; row++) {
            checks.equal("live in the row " + row, x.live(row), due[row]);
        }
    }

    /** "that is before the end": with a life of 0 it lives in no row, with one of 1 in one. */
    private static void endsBeforeItsEnd() {
        for (int life = 0; life <= 5; life++) {
            LoopScheduler x = pair();
            x.move(1, life);
            checks.equal("its life", x.lifetime(0), life);
            for (int row = 0; row < 5; row++) {
                checks.equal("life " + life + ", row " + row, x.live(row), row < life ? 2 : 1);
            }
        }
    }

    /** "it lives in the row c mod T for each such cycle c": from the last row on into the first. */
    private static void livesInRowsThatComeRound() {
        LoopScheduler x = pair();
        x.move(1, 501);
        x.move(0, 499);
        int[] due = {2, 1, 1, 1, 2};
        for (int row = 0; row < 5; row++) {
            checks.equal("499 and 500", x.live(row), due[row]);
        }
        x.move(0, 498);
        x.move(1, 500);
        int[] dueBefore = {1, 1, 1, 2, 2};
        for (int row = 0; row < 5; row++) {
            checks.equal("498 and 499", x.live(row), dueBefore[row]);
        }
    }

    /** live: "a value as often as it lives in this row" */
    private static void asOftenAsItLives() {
        LoopScheduler x = pair();
        int[][] due = {{5, 2, 2, 2}, {6, 3, 2, 2}, {9, 3, 3, 2}, {10, 3, 3, 3}, {11, 4, 3, 3}, {1000, 201, 201, 201}};
        for (int[] lifeAndRows : due) {
            x.move(1, lifeAndRows[0]);
            checks.equal("life " + lifeAndRows[0] + ", the first row", x.live(0), lifeAndRows[1]);
            checks.equal("life " + lifeAndRows[0] + ", the second row", x.live(1), lifeAndRows[2]);
            checks.equal("life " + lifeAndRows[0] + ", the last row", x.live(4), lifeAndRows[3]);
        }
    }

    /** live: "if row is not 0 to the interval minus 1": the ends are allowed. */
    private static void theEndsOfRows() {
        checks.equal("the only row of nothing", Samples.scheduledNothing().live(0), 0);
        LoopScheduler x = Samples.operations(14, 1, 4);
        x.addDependence(12, 13, 0, 0);
        checks.equal("interval", x.schedule(200), 56);
        checks.equal("the first row", x.live(0), 0);
        checks.equal("the row before it begins", x.live(47), 0);
        checks.equal("the row where it begins", x.live(48), 1);
        checks.equal("the row before its end", x.live(51), 1);
        checks.equal("the row of its end", x.live(52), 0);
        checks.equal("the last row", x.live(55), 0);
        x.move(13, 56 * 10 + 52);
        checks.equal("the last row of a long life", x.live(55), 10);
    }

    /** registers: "the greatest number of values that live in a row": in the first one, between, in the last. */
    private static void theMostInARow() {
        LoopScheduler x = pair();
        checks.equal("one in each", x.registers(), 1);
        for (int row = 0; row < 5; row++) {
            x.move(1, 10 + row + 1);
            x.move(0, 10 + row);
            checks.equal("two in the row " + row, x.live(row), 2);
            checks.equal("two in one row", x.registers(), 2);
        }
        checks.equal("in the full loop", Samples.scheduledFullLoop().registers(), 3);
    }

    /** registers: without operations, or without uses, there are none. */
    private static void noRegisters() {
        checks.equal("without operations", Samples.scheduledNothing().registers(), 0);
        LoopScheduler x = Samples.operations(14, 0, 1);
        x.schedule(200);
        checks.equal("without dependences", x.registers(), 0);
    }

    /** copies: "at least 1" */
    private static void atLeastOneCopy() {
        LoopScheduler x = pair();
        checks.equal("for a life of 0", x.copies(0), 1);
        x.move(1, 1);
        checks.equal("for a life of 1", x.copies(0), 1);
        LoopScheduler y = Samples.scheduledSix();
        checks.equal("for no use at the interval 1", y.copies(5), 1);
    }

    /** copies: "the lifetime divided by the interval, rounded up": around each multiple of the interval. */
    private static void copiesAreRoundedUp() {
        LoopScheduler x = pair();
        int[][] due = {{4, 1}, {5, 1}, {6, 2}, {9, 2}, {10, 2}, {11, 3}, {995, 199}, {996, 200}, {1000, 200}};
        for (int[] lifeAndCopies : due) {
            x.move(1, lifeAndCopies[0]);
            checks.equal("copies for " + lifeAndCopies[0], x.copies(0), lifeAndCopies[1]);
        }
        checks.equal("for just one interval", x.copies(1), 1);
    }

    private static void copiesOfTheFullLoop() {
        LoopScheduler x = Samples.scheduledFullLoop();
        x.move(13, 999);
        for (int i = 0; i < 12; i++) {
            checks.equal("for a life of 1", x.copies(i), 1);
        }
        checks.equal("for a life of 987", x.copies(12), 198);
        checks.equal("for no use", x.copies(13), 1);
        checks.equal("unrolling", x.unrolling(), 198);
    }

    /** unrolling: "1 if there are none" */
    private static void unrollingOfNoOperations() {
        checks.equal("none", Samples.scheduledNothing().unrolling(), 1);
        checks.equal("six without uses", Samples.scheduledSix().unrolling(), 1);
    }

    /** unrolling: "the least common multiple of the copies of all operations" */
    private static void leastCommonMultiple() {
        checks.equal("of 1 and 1", unrollingOf(1, 1), 1);
        checks.equal("of 2 and 2", unrollingOf(2, 2), 2);
        checks.equal("of 2 and 4", unrollingOf(2, 4), 4);
        checks.equal("of 4 and 2", unrollingOf(4, 2), 4);
        checks.equal("of 4 and 6", unrollingOf(4, 6), 12);
        checks.equal("of 6, 10 and 15", unrollingOf(6, 10, 15), 30);
        checks.equal("of 1 and 1000", unrollingOf(1, 1000), 1000);
        checks.equal("of 1000 five times", unrollingOf(1000, 1000, 1000, 1000, 1000), 1000);
        checks.equal("of 500, 1000, 250, 125 and 8", unrollingOf(500, 1000, 250, 125, 8), 1000);
    }

    /** unrolling: "1000000 if it is greater than that": the greatest ones that are not. */
    private static void unrollingJustBelowAMillion() {
        checks.equal("of 999, 77 and 13", unrollingOf(999, 77, 13), 999999);
        checks.equal("of 13, 999 and 77", unrollingOf(13, 999, 77), 999999);
        checks.equal("of 991 and 997", unrollingOf(991, 997), 988027);
        checks.equal("of 1000 and 999", unrollingOf(1000, 999), 999000);
    }

    /** unrolling: "1000000 if it is greater than that": the least one that is, 1000005, and others. */
    private static void unrollingAboveAMillion() {
        checks.equal("of 489, 409 and 5", unrollingOf(489, 409, 5), 1000000);
        checks.equal("of 5, 489 and 409", unrollingOf(5, 489, 409), 1000000);
        checks.equal("of 991, 997 and 2", unrollingOf(991, 997, 2), 1000000);
        checks.equal("of 2, 991 and 997", unrollingOf(2, 991, 997), 1000000);
    }

    /** The copies of 13 operations are different primes, whose product is far above what a long holds. */
    private static void unrollingFarAboveAMillion() {
        int[] primes = {499, 491, 487, 479, 467, 463, 461, 457, 449, 443, 439, 433, 431};
        LoopScheduler x = new LoopScheduler();
        for (int i = 0; i < 14; i++) {
            x.addOperation(i % 3, 1);
        }
        for (int kind = 0; kind < 3; kind++) {
            x.setUnits(kind, 3);
        }
        for (int i = 0; i < 13; i++) {
            x.addDependence(i, 13, 0, 0);
        }
        checks.equal("interval", x.schedule(200), 2);
        checks.isTrue("the user is late", x.move(13, 999));
        for (int i = 0; i < 13; i++) {
            // The row stays, as the others are full.
            checks.isTrue("moved", x.move(i, 1000 - 2 * primes[i] - x.time(i) % 2));
            checks.equal("copies", x.copies(i), primes[i]);
        }
        checks.equal("unrolling", x.unrolling(), 1000000);
    }

    /** Each answer is of the latest times: asked first, and asked again after a move. */
    private static void valuesOfTheScheduleAsItIs() {
        asItIs("lifetime", x -> x.lifetime(0), 0, 11);
        asItIs("live", x -> x.live(0), 1, 4);
        asItIs("registers", x -> x.registers(), 1, 4);
        asItIs("copies", x -> x.copies(0), 1, 3);
        asItIs("unrolling", x -> x.unrolling(), 1, 3);
    }

    private static void asItIs(String what, Checks.CallOf call, int dueAtFirst, int dueThen) {
        LoopScheduler x = pair();
        x.move(1, 11);
        checks.equal(what + ", asked first", call.answer(x), dueThen);
        LoopScheduler y = pair();
        checks.equal(what + ", before a move", call.answer(y), dueAtFirst);
        y.move(1, 11);
        checks.equal(what + ", after a move", call.answer(y), dueThen);
        y.setDelay(0, 0);
        y.schedule(200);
        checks.equal(what + ", of another schedule", call.answer(y), dueAtFirst);
    }

    /** The unrolling where values live so long at the interval 1: all are used by one operation. */
    private static int unrollingOf(int... lifetimes) {
        LoopScheduler x = Samples.sixAtOnce();
        for (int i = 0; i < lifetimes.length; i++) {
            x.addDependence(i, 5, 0, 0);
        }
        x.schedule(1);
        x.move(5, 1000);
        for (int i = 0; i < lifetimes.length; i++) {
            x.move(i, 1000 - lifetimes[i]);
            checks.equal("copies of so long a life", x.copies(i), lifetimes[i]);
        }
        return x.unrolling();
    }
}
