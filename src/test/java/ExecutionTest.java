/** Promises 25 to 30: what is issued while iterations overlap, and the digest. */
final class ExecutionTest {
    private static final int GREATEST = Integer.MAX_VALUE;

    private static final Checks checks = new Checks("ExecutionTest");

    public static void main(String[] args) {
        cycles();
        issued();
        issue();
        issueOrder();
        prologueAndEpilogue();
        prologueOfManyStages();
        fullLoop();
        digest();
        digestOfSchedules();
        checks.finish();
    }

    private static void cycles() {
        LoopScheduler x = Samples.scheduledRing();
        checks.equal("cycles(1)", x.cycles(1), 8);
        checks.equal("cycles(10)", x.cycles(10), 44);
        checks.equal("cycles(1000)", x.cycles(1000), 4004);
        LoopScheduler one = Samples.operations(1, 0, 4);
        one.schedule(9);
        checks.equal("busy cycles do not count", one.cycles(1), 1);
        LoopScheduler empty = new LoopScheduler();
        empty.schedule(9);
        checks.equal("cycles(1) without operations", empty.cycles(1), 0);
        checks.equal("cycles(1000) without operations", empty.cycles(1000), 0);
    }

    private static void issued() {
        LoopScheduler x = Samples.scheduledRing();
        int[] due = {1, 0, 1, 0, 1, 0, 2, 1, 0, 0, 1, 1, 0};
        for (int cycle = 0; cycle < due.length; cycle++) {
            checks.equal("issued(2, " + cycle + ")", x.issued(2, cycle), due[cycle]);
        }
        checks.equal("issued in the last iteration", x.issued(1000, 3996 + 7), 1);
        checks.equal("issued behind it", x.issued(1000, 4000), 0);
        checks.equal("issued in the greatest cycle", x.issued(1000, GREATEST), 0);
        LoopScheduler six = Samples.sixAtOnce();
        six.schedule(1);
        checks.equal("six at once", six.issued(1, 0), 6);
        checks.equal("six at once at last", six.issued(1000, 999), 6);
        checks.equal("six at once no more", six.issued(1000, 1000), 0);
        LoopScheduler empty = new LoopScheduler();
        empty.schedule(1);
        checks.equal("issued without operations", empty.issued(5, 0), 0);
    }

    private static void issue() {
        LoopScheduler x = Samples.scheduledRing();
        checks.equal("issue(10, 0, 0)", x.issue(10, 0, 0), 0);
        checks.equal("issue(10, 4, 0)", x.issue(10, 4, 0), 14);
        checks.equal("issue(10, 6, 0)", x.issue(10, 6, 0), 2);
        checks.equal("issue(10, 6, 1)", x.issue(10, 6, 1), 15);
        checks.equal("issue(1, 6, 0)", x.issue(1, 6, 0), 2);
        checks.equal("issue(1000, 4003, 0)", x.issue(1000, 4003, 0), 14 * 999 + 3);
    }

    /** Iterations go before operations: those of a later stage, whatever their numbers are, come first. */
    private static void issueOrder() {
        LoopScheduler x = Samples.sixAtOnce();
        x.schedule(1);
        x.move(0, 2);
        x.move(3, 1);
        x.move(5, 2);
        int[] dueInCycle3 = {14 + 0, 14 + 5, 28 + 3, 42 + 1, 42 + 2, 42 + 4};
        for (int index = 0; index < 6; index++) {
            checks.equal("issue(9, 3, " + index + ")", x.issue(9, 3, index), dueInCycle3[index]);
        }
        int[] dueInCycle1 = {3, 14 + 1, 14 + 2, 14 + 4};
        for (int index = 0; index < 4; index++) {
            checks.equal("issue(9, 1, " + index + ")", x.issue(9, 1, index), dueInCycle1[index]);
        }
        checks.equal("the last iteration ends, first", x.issue(2, 3, 0), 14);
        checks.equal("the last iteration ends, second", x.issue(2, 3, 1), 14 + 5);
    }

    private static void prologueAndEpilogue() {
        LoopScheduler x = Samples.ring();
        x.schedule(9);
        checks.equal("prologue of the ring", x.prologue(), 2);
        checks.equal("epilogue of the ring", x.epilogue(), 2);
        LoopScheduler six = Samples.sixAtOnce();
        six.schedule(1);
        checks.equal("prologue of one stage", six.prologue(), 0);
        checks.equal("epilogue of one stage", six.epilogue(), 0);
        six.move(2, 3);
        six.move(4, 1);
        checks.equal("prologue of four stages", six.prologue(), 14);
        checks.equal("epilogue of four stages", six.epilogue(), 4);
        six.move(0, 2);
        checks.equal("prologue when the first is later", six.prologue(), 12);
        checks.equal("epilogue when the first is later", six.epilogue(), 6);
        LoopScheduler empty = new LoopScheduler();
        empty.schedule(9);
        checks.equal("prologue without operations", empty.prologue(), 0);
        checks.equal("epilogue without operations", empty.epilogue(), 0);
    }

    private static void prologueOfManyStages() {
        LoopScheduler x = Samples.sixAtOnce();
        x.schedule(1);
        x.move(1, 1000);
        checks.equal("stages", x.stages(), 1001);
        checks.equal("prologue of 1000 cycles", x.prologue(), 5000);
        checks.equal("epilogue of 1001 iterations", x.epilogue(), 1000);
    }

    private static void fullLoop() {
        LoopScheduler x = Samples.fullLoop();
        checks.equal("schedule of the chain", x.schedule(200), 5);
        checks.equal("its last time", x.time(13), 13);
        checks.equal("its height", x.height(0, 1), 13);
        checks.equal("its registers", x.registers(), 3);
        checks.equal("its stages", x.stages(), 3);
        checks.equal("its prologue", x.prologue(), 5 + 10);
        checks.equal("its epilogue", x.epilogue(), 5 + 8);
        checks.equal("its cycles", x.cycles(2), 19);
        checks.equal("issued at once", x.issued(9, 13), 3);
        checks.equal("the oldest first", x.issue(9, 13, 0), 13);
        checks.equal("the next", x.issue(9, 13, 1), 14 + 8);
        checks.equal("the newest last", x.issue(9, 13, 2), 28 + 3);
        checks.equal("freedom in the chain", x.freedom(7), 1);
        checks.equal("freedom at its end", x.freedom(13), 396);
        checks.isFalse("a move to a full row", x.move(13, 1000));
        checks.isTrue("a move at its end", x.move(13, 999));
    }

    private static void digest() {
        LoopScheduler x = new LoopScheduler();
        checks.equal("digest of nothing, written out", x.digest(), 79L * 31 * 31 * 31 * 31 * 31 * 31
                + 31L * 31 * 31 * 31 * 31 + 31L * 31 * 31 * 31 + 31L * 31 * 31);
        x.schedule(9);
        checks.equal("digest of an empty schedule", x.digest(), Checks.digestOf(1, 1, 1, 0, 0, 1));
        LoopScheduler ring = Samples.ring();
        checks.equal("digest of the ring", ring.digest(), Checks.digestOf(1, 1, 1, 4, 0, 1, 1, 2, 2, 1, 0, 1,
                4, 0, 1, 2, 0, 1, 2, 4, 0, 2, 3, 1, 0, 3, 0, 1, 2, 0));
        ring.schedule(20);
        ring.setUnits(0, 2);
        checks.equal("a digest that was given", ring.digest(), 1215891592070459029L);
    }

    private static void digestOfSchedules() {
        LoopScheduler x = Samples.operations(2, 2, 3);
        x.schedule(9);
        checks.equal("digest with times", x.digest(), Checks.digestOf(1, 1, 1, 2, 2, 3, 2, 3, 0, 6, 0, 3));
        x.move(1, 9);
        checks.equal("digest after a move", x.digest(), Checks.digestOf(1, 1, 1, 2, 2, 3, 2, 3, 0, 6, 0, 9));
        x.schedule(5);
        checks.equal("digest without a schedule", x.digest(), Checks.digestOf(1, 1, 1, 2, 2, 3, 2, 3, 0, 0));
        LoopScheduler six = Samples.sixAtOnce();
        six.schedule(1);
        six.move(5, 8);
        checks.equal("digest at the interval 1", six.digest(), Checks.digestOf(2, 2, 2, 6,
                0, 1, 1, 1, 2, 1, 0, 1, 1, 1, 2, 1, 0, 1, 0, 0, 0, 0, 0, 8));
        x.schedule(6);
        x.schedule(7);
        checks.equal("digest does not count attempts", x.digest(),
                Checks.digestOf(1, 1, 1, 2, 2, 3, 2, 3, 0, 6, 0, 3));
    }
}
