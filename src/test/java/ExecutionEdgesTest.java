/**
 * The sentences about an execution and the digest (promises 25 to 30) that name a boundary: a test for each, which
 * holds what is just inside and just outside. Every refused argument stands in RefusalTest.
 */
final class ExecutionEdgesTest {
    private static final int GREATEST = Integer.MAX_VALUE;

    private static final Checks checks = new Checks("ExecutionEdgesTest");

    public static void main(String[] args) {
        theFirstIteration();
        theLastIteration();
        theCycleBehindTheLast();
        noCyclesWithoutOperations();
        theEndsOfN();
        theEndsOfCycles();
        issuedInEachCycle();
        allInOneCycle();
        inTheOrderOfIterations();
        thenOfOperations();
        theGreatestNumberIssued();
        indexesThatAreThere();
        cyclesOfThePrologue();
        noPrologueOfOneStage();
        thousandIterationsOfThePrologue();
        cyclesOfTheEpilogue();
        noEpilogueOfOneStage();
        stagesIterationsOfTheEpilogue();
        neitherWithoutOperations();
        digestWithoutASchedule();
        digestWithASchedule();
        digestOfEachNumber();
        digestWrapsAround();
        checks.finish();
    }

    /** One operation at the interval 7, at this time. */
    private static LoopScheduler everySeventh(int time) {
        LoopScheduler x = Samples.operations(1, 0, 1);
        x.addDependence(0, 0, 7, 1);
        x.schedule(200);
        x.move(0, time);
        return x;
    }

    /** "the operation i of iteration k (0 to n - 1) is issued in the cycle time of i + k * T": 0 is the first. */
    private static void theFirstIteration() {
        LoopScheduler x = everySeventh(10);
        checks.equal("one interval before", x.issued(5, 3), 0);
        checks.equal("just before", x.issued(5, 9), 0);
        checks.equal("the first", x.issued(5, 10), 1);
        checks.equal("its number", x.issue(5, 10, 0), 0);
        checks.equal("just behind", x.issued(5, 11), 0);
        checks.equal("the second", x.issue(5, 17, 0), 14);
        LoopScheduler each = Samples.operations(1, 0, 1);
        each.schedule(1);
        each.move(0, 10);
        checks.equal("just before, at the interval 1", each.issued(5, 9), 0);
        checks.equal("the first, at the interval 1", each.issued(5, 10), 1);
        checks.equal("the last, at the interval 1", each.issued(5, 14), 1);
        checks.equal("just behind, at the interval 1", each.issued(5, 15), 0);
    }

    /** ".. (0 to n - 1) ..": n - 1 is the last, n is none. */
    private static void theLastIteration() {
        LoopScheduler x = everySeventh(10);
        for (int n : new int[] {1, 2, 999, 1000}) {
            int last = 10 + (n - 1) * 7;
            checks.equal("the last of " + n, x.issued(n, last), 1);
            checks.equal("its number", x.issue(n, last, 0), 14 * (n - 1));
            checks.equal("just behind", x.issued(n, last + 1), 0);
            checks.equal("one interval behind", x.issued(n, last + 7), 0);
        }
    }

    /** cycles: "the cycle behind the one in which the last operation is issued", whichever it is, however busy. */
    private static void theCycleBehindTheLast() {
        LoopScheduler x = new LoopScheduler();
        for (int i = 0; i < 3; i++) {
            x.addOperation(i, 4);
        }
        checks.equal("interval", x.schedule(200), 4);
        checks.equal("all at 0", x.cycles(1), 1);
        for (int i = 0; i < 3; i++) {
            x.move(i, 20 + i);
            checks.equal("the last is " + i, x.cycles(1), 21 + i);
            checks.equal("three iterations", x.cycles(3), 29 + i);
            checks.equal("nothing is issued then", x.issued(3, 29 + i), 0);
            checks.equal("something is issued before", x.issued(3, 28 + i), 1);
            x.move(i, 0);
        }
    }

    /** cycles: "0 if there are no operations" */
    private static void noCyclesWithoutOperations() {
        LoopScheduler x = Samples.scheduledNothing();
        for (int n : new int[] {1, 2, 1000}) {
            checks.equal("none", x.cycles(n), 0);
        }
    }

    /** "if n is not 1 to 1000": both ends are allowed. */
    private static void theEndsOfN() {
        LoopScheduler x = Samples.scheduledSix();
        checks.equal("cycles of 1", x.cycles(1), 1);
        checks.equal("cycles of 1000", x.cycles(1000), 1000);
        checks.equal("issued of 1", x.issued(1, 0), 6);
        checks.equal("issued of 1000", x.issued(1000, 999), 6);
        checks.equal("issue of 1", x.issue(1, 0, 5), 5);
        checks.equal("issue of 1000", x.issue(1000, 999, 5), 14 * 999 + 5);
        LoopScheduler wide = Samples.operations(14, 0, 4);
        wide.schedule(200);
        wide.move(13, 52 + 56 * 16);
        checks.equal("time", wide.time(13), 948);
        checks.equal("cycles of 1000 wide ones", wide.cycles(1000), 948 + 999 * 56 + 1);
    }

    /** "or cycle is negative": 0 is allowed, and so is the greatest number, in which nothing is issued. */
    private static void theEndsOfCycles() {
        LoopScheduler x = Samples.scheduledSix();
        checks.equal("in the cycle 0", x.issued(1000, 0), 6);
        checks.equal("the first in it", x.issue(1000, 0, 0), 0);
        checks.equal("in the cycle 1000", x.issued(1000, 1000), 0);
        checks.equal("in the greatest cycle", x.issued(1000, GREATEST), 0);
        checks.equal("without operations", Samples.scheduledNothing().issued(1000, GREATEST), 0);
        checks.equal("without operations, in 0", Samples.scheduledNothing().issued(1, 0), 0);
        LoopScheduler late = everySeventh(1000);
        checks.equal("before the first", late.issued(1000, 0), 0);
        checks.equal("in the greatest one", late.issued(1000, GREATEST), 0);
    }

    /** issued: all that is issued in all cycles is n times the operations. */
    private static void issuedInEachCycle() {
        for (int n = 1; n <= 4; n++) {
            LoopScheduler x = Samples.scheduledRing();
            int sum = 0;
            for (int cycle = 0; cycle < x.cycles(n); cycle++) {
                sum += x.issued(n, cycle);
            }
            checks.equal("of " + n + " iterations", sum, 4 * n);
        }
    }

    /** Nine of the 14 operations can be issued in a cycle of one iteration, the others beside those of the one before. */
    private static void allInOneCycle() {
        LoopScheduler x = new LoopScheduler();
        for (int kind = 0; kind < 3; kind++) {
            x.setUnits(kind, 3);
        }
        for (int i = 0; i < 9; i++) {
            x.addOperation(i % 3, 1);
        }
        checks.equal("interval", x.schedule(1), 1);
        checks.equal("nine at once", x.issued(1, 0), 9);
        checks.equal("the last of them", x.issue(1, 0, 8), 8);
        for (int i = 0; i < 9; i++) {
            x.move(i, 8 - i);
        }
        checks.equal("nine of nine iterations", x.issued(1000, 8), 9);
        for (int i = 0; i < 9; i++) {
            checks.equal("of the iteration " + i, x.issue(1000, 8, i), 14 * i + i);
        }
        checks.equal("eight when they end", x.issued(1000, 1000), 8);
    }

    /** issue: "in the order of iterations", though the operation of the older one has the greater number. */
    private static void inTheOrderOfIterations() {
        LoopScheduler x = Samples.scheduledSix();
        x.move(5, 1);
        checks.equal("the older one first", x.issue(2, 1, 0), 5);
        checks.equal("then the younger one", x.issue(2, 1, 1), 14);
        x.move(5, 0);
        x.move(0, 1);
        checks.equal("the older one first again", x.issue(2, 1, 0), 0);
        checks.equal("then the younger one again", x.issue(2, 1, 1), 14 + 1);
    }

    /** issue: "and of operations in an iteration": by their numbers, not by their times. */
    private static void thenOfOperations() {
        LoopScheduler x = Samples.scheduledSix();
        for (int index = 0; index < 6; index++) {
            checks.equal("one iteration", x.issue(3, 2, index), 28 + index);
        }
        for (int i = 0; i < 6; i += 2) {
            x.move(i, 1);
        }
        int[] due = {0, 2, 4, 14 + 1, 14 + 3, 14 + 5};
        for (int index = 0; index < 6; index++) {
            checks.equal("two iterations", x.issue(3, 1, index), due[index]);
        }
    }

    /** issue: "14 * the number of the iteration + the number of the operation": 14 * 999 + 13 is the greatest. */
    private static void theGreatestNumberIssued() {
        LoopScheduler x = Samples.scheduledFullLoop();
        checks.equal("the last cycle", x.cycles(1000), 999 * 5 + 13 + 1);
        checks.equal("the greatest", x.issue(1000, 999 * 5 + 13, 0), 14 * 999 + 13);
        checks.equal("the least", x.issue(1000, 0, 0), 0);
        checks.equal("the last of the first iteration", x.issue(1, 13, 0), 13);
        checks.equal("the first of the second iteration", x.issue(2, 5, 1), 14);
    }

    /** issue: "if there is no such index": each one that issued tells is there. */
    private static void indexesThatAreThere() {
        LoopScheduler x = Samples.scheduledFullLoop();
        for (int cycle = 0; cycle <= 20; cycle++) {
            int before = -1;
            int count = x.issued(2, cycle);
            for (int index = 0; index < count; index++) {
                int number = x.issue(2, cycle, index);
                checks.isTrue("ascending numbers", number > before);
                checks.equal("in its cycle", number / 14 * 5 + number % 14, cycle);
                before = number;
            }
            int then = cycle;
            checks.same("the index behind the last", Checks.outcome(() -> x.issue(2, then, count)),
                    "throws.IndexOutOfBoundsException");
        }
    }

    /** prologue: "in the first (stages - 1) * T cycles": the one before is in it, that one is not. */
    private static void cyclesOfThePrologue() {
        LoopScheduler x = Samples.operations(1, 0, 1);
        x.addOperation(1, 1);
        x.addDependence(0, 0, 7, 1);
        x.schedule(200);
        x.move(1, 14);
        checks.equal("0 and 7 of the first", x.prologue(), 2);
        x.move(0, 6);
        checks.equal("6 and 13 of the first", x.prologue(), 2);
        x.move(0, 7);
        checks.equal("7 of the first", x.prologue(), 1);
        x.move(0, 13);
        checks.equal("13 of the first", x.prologue(), 1);
        x.move(0, 14);
        checks.equal("none of either", x.prologue(), 0);
        x.move(1, 20);
        checks.equal("still three stages", x.prologue(), 0);
        x.move(1, 21);
        checks.equal("14 of the first, of four stages", x.prologue(), 1);
    }

    private static void noPrologueOfOneStage() {
        checks.equal("at the time 0", everySeventh(0).prologue(), 0);
        checks.equal("at the last time of the stage", everySeventh(6).prologue(), 0);
        checks.equal("alone in a later stage", everySeventh(7).prologue(), 0);
        checks.equal("of six at once", Samples.scheduledSix().prologue(), 0);
    }

    /** prologue: "of an execution of 1000 iterations", which are just enough for 1001 stages. */
    private static void thousandIterationsOfThePrologue() {
        LoopScheduler x = Samples.scheduledSix();
        x.move(5, 1000);
        checks.equal("stages", x.stages(), 1001);
        checks.equal("all 1000 of five", x.prologue(), 5000);
        x.move(0, 1);
        checks.equal("one fewer", x.prologue(), 4999);
        x.move(1, 999);
        checks.equal("only one", x.prologue(), 4000);
        x.move(1, 1000);
        checks.equal("none of that", x.prologue(), 3999);
    }

    /** epilogue: "behind the first stages * T cycles": that cycle is in it, the one before is not. */
    private static void cyclesOfTheEpilogue() {
        LoopScheduler x = Samples.operations(1, 0, 1);
        x.addOperation(1, 1);
        x.addDependence(0, 0, 7, 1);
        x.schedule(200);
        x.move(1, 14);
        checks.equal("the two last of the second", x.epilogue(), 2);
        x.move(0, 6);
        checks.equal("none of the first", x.epilogue(), 2);
        x.move(0, 7);
        checks.equal("one of the first", x.epilogue(), 3);
        x.move(0, 13);
        checks.equal("one of the first still", x.epilogue(), 3);
        x.move(0, 14);
        checks.equal("two of each", x.epilogue(), 4);
    }

    private static void noEpilogueOfOneStage() {
        checks.equal("at the time 0", everySeventh(0).epilogue(), 0);
        checks.equal("at the last time of the stage", everySeventh(6).epilogue(), 0);
        checks.equal("in the second stage", everySeventh(7).epilogue(), 1);
        checks.equal("of six at once", Samples.scheduledSix().epilogue(), 0);
    }

    /** epilogue: "an execution of stages iterations", also where these are 1001. */
    private static void stagesIterationsOfTheEpilogue() {
        LoopScheduler x = Samples.scheduledSix();
        x.move(5, 999);
        checks.equal("1000 stages", x.epilogue(), 999);
        x.move(5, 1000);
        checks.equal("1001 stages", x.epilogue(), 1000);
        for (int i = 0; i < 5; i++) {
            x.move(i, 1000);
        }
        checks.equal("1001 stages of six", x.epilogue(), 6000);
        checks.equal("the prologue then", x.prologue(), 0);
    }

    /** prologue, epilogue: "0 if there are no operations" */
    private static void neitherWithoutOperations() {
        checks.equal("prologue", Samples.scheduledNothing().prologue(), 0);
        checks.equal("epilogue", Samples.scheduledNothing().epilogue(), 0);
    }

    /** digest: "the interval of the schedule, 0 if there is none", and no times then. */
    private static void digestWithoutASchedule() {
        LoopScheduler x = Samples.operations(2, 1, 1);
        checks.equal("not sought", x.digest(), Checks.digestOf(1, 1, 1, 2, 1, 1, 1, 1, 0, 0));
        x.schedule(1);
        checks.equal("not found", x.digest(), Checks.digestOf(1, 1, 1, 2, 1, 1, 1, 1, 0, 0));
        x.schedule(2);
        x.setUnits(1, 1);
        checks.equal("removed", x.digest(), Checks.digestOf(1, 1, 1, 2, 1, 1, 1, 1, 0, 0));
        checks.equal("no operations", new LoopScheduler().digest(), Checks.digestOf(1, 1, 1, 0, 0, 0));
    }

    /** digest: "and, if there is one, the time of each operation" */
    private static void digestWithASchedule() {
        LoopScheduler x = Samples.operations(2, 1, 1);
        x.schedule(2);
        checks.equal("found", x.digest(), Checks.digestOf(1, 1, 1, 2, 1, 1, 1, 1, 0, 2, 0, 1));
        x.move(0, 1000);
        checks.equal("moved", x.digest(), Checks.digestOf(1, 1, 1, 2, 1, 1, 1, 1, 0, 2, 1000, 1));
        x.move(0, 999);
        checks.equal("not moved", x.digest(), Checks.digestOf(1, 1, 1, 2, 1, 1, 1, 1, 0, 2, 1000, 1));
        checks.equal("no operations", Samples.scheduledNothing().digest(), Checks.digestOf(1, 1, 1, 0, 0, 1));
        LoopScheduler each = Samples.operations(1, 2, 1);
        each.schedule(1);
        checks.equal("at the interval 1", each.digest(), Checks.digestOf(1, 1, 1, 1, 2, 1, 0, 1, 0));
        each.move(0, 3);
        checks.equal("moved at the interval 1", each.digest(), Checks.digestOf(1, 1, 1, 1, 2, 1, 0, 1, 3));
    }

    /** digest: each number that is named counts, and each one at its place. */
    private static void digestOfEachNumber() {
        LoopScheduler x = new LoopScheduler();
        x.setUnits(0, 3);
        x.setUnits(1, 2);
        x.addOperation(2, 4);
        x.addOperation(1, 3);
        x.addDependence(1, 0, 12, 3);
        x.addDependence(0, 1, 11, 2);
        checks.equal("a loop of different numbers", x.digest(),
                Checks.digestOf(3, 2, 1, 2, 2, 4, 1, 3, 2, 1, 0, 12, 3, 0, 1, 11, 2, 0));
        checks.equal("its interval", x.schedule(200), 5);
        checks.equal("with its schedule", x.digest(),
                Checks.digestOf(3, 2, 1, 2, 2, 4, 1, 3, 2, 1, 0, 12, 3, 0, 1, 11, 2, 5, 0, 1));
    }

    /** digest: "which wraps around as a 64-bit integer": of 208 numbers, those of the full loop with its schedule. */
    private static void digestWrapsAround() {
        int[] numbers = new int[3 + 1 + 28 + 1 + 160 + 1 + 14];
        int at = 0;
        for (int units : new int[] {3, 1, 1, 14}) {
            numbers[at++] = units;
        }
        for (int i = 0; i < 14; i++) {
            numbers[at++] = 0;
            numbers[at++] = 1;
        }
        numbers[at++] = 40;
        for (int k = 0; k < 40; k++) {
            numbers[at++] = k % 13;
            numbers[at++] = k % 13 + 1;
            numbers[at++] = 1;
            numbers[at++] = 0;
        }
        numbers[at++] = 5;
        for (int i = 0; i < 14; i++) {
            numbers[at++] = i;
        }
        checks.equal("all numbers are told", at, numbers.length);
        checks.equal("the full loop", Samples.scheduledFullLoop().digest(), Checks.digestOf(numbers));
        java.math.BigInteger d = java.math.BigInteger.valueOf(79);
        for (int x : numbers) {
            d = d.multiply(java.math.BigInteger.valueOf(31)).add(java.math.BigInteger.valueOf(x));
        }
        checks.equal("cut to 64 bits", Samples.scheduledFullLoop().digest(), d.longValue());
    }
}
