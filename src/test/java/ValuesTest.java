/** Promises 20 to 24: lifetimes, what lives in a row, registers, copies and the unrolling. */
final class ValuesTest {
    private static final Checks checks = new Checks("ValuesTest");

    public static void main(String[] args) {
        lifetime();
        live();
        registers();
        copies();
        unrolling();
        greatUnrolling();
        checks.finish();
    }

    /** Three operations at 0, 3 and 4 with the interval 4; the first is used by both, and by itself later. */
    private static LoopScheduler fan() {
        LoopScheduler x = new LoopScheduler();
        x.addOperation(0, 1);
        x.addOperation(1, 1);
        x.addOperation(2, 4);
        x.addDependence(0, 1, 3, 0);
        x.addDependence(0, 2, 4, 0);
        x.addDependence(1, 2, 0, 1);
        x.addDependence(0, 0, 1, 2);
        x.schedule(9);
        return x;
    }

    private static void lifetime() {
        LoopScheduler ring = Samples.scheduledRing();
        int[] due = {2, 4, 1, 1};
        for (int i = 0; i < 4; i++) {
            checks.equal("lifetime in the ring", ring.lifetime(i), due[i]);
        }
        LoopScheduler x = fan();
        checks.equal("the greatest of the uses", x.lifetime(0), 8);
        checks.equal("a use in the next iteration", x.lifetime(1), 5);
        checks.equal("no use", x.lifetime(2), 0);
        x.move(2, 10);
        checks.equal("a later use", x.lifetime(0), 10);
        checks.equal("a later use in the next iteration", x.lifetime(1), 11);
        x.move(1, 4);
        checks.equal("a later beginning", x.lifetime(1), 10);
        LoopScheduler same = Samples.operations(1, 0, 1);
        same.addDependence(0, 0, 0, 0);
        same.schedule(1);
        checks.equal("a use at once", same.lifetime(0), 0);
    }

    private static void live() {
        LoopScheduler ring = Samples.scheduledRing();
        int[] dueInRing = {2, 2, 2, 2};
        LoopScheduler x = fan();
        int[] dueInFan = {3, 3, 3, 4};
        for (int row = 0; row < 4; row++) {
            checks.equal("live in row " + row + " of the ring", ring.live(row), dueInRing[row]);
            checks.equal("live in row " + row + " of the fan", x.live(row), dueInFan[row]);
        }
        LoopScheduler one = Samples.operations(2, 0, 1);
        one.addDependence(0, 1, 3, 0);
        one.addDependence(1, 1, 5, 1);
        one.schedule(5);
        one.move(0, 0);
        int[] dueOfTwo = {2, 2, 2, 1, 1};
        for (int row = 0; row < 5; row++) {
            checks.equal("live with ends before rows", one.live(row), dueOfTwo[row]);
        }
        LoopScheduler idle = Samples.operations(3, 0, 1);
        idle.schedule(3);
        checks.equal("no use, no life", idle.live(0) + idle.live(1) + idle.live(2), 0);
    }

    private static void registers() {
        LoopScheduler x = Samples.ring();
        x.schedule(9);
        checks.equal("registers of the ring", x.registers(), 2);
        checks.equal("registers of the fan", fan().registers(), 4);
        LoopScheduler y = fan();
        y.move(2, 1000);
        checks.equal("registers after a move", y.registers(), 501);
        LoopScheduler first = Samples.operations(3, 0, 1);
        first.addDependence(0, 1, 1, 0);
        first.schedule(9);
        checks.equal("registers, most in row 0", first.registers(), 1);
        LoopScheduler empty = new LoopScheduler();
        empty.schedule(7);
        checks.equal("registers without operations", empty.registers(), 0);
    }

    private static void copies() {
        LoopScheduler ring = Samples.scheduledRing();
        for (int i = 0; i < 4; i++) {
            checks.equal("copies in the ring", ring.copies(i), 1);
        }
        LoopScheduler x = fan();
        checks.equal("copies for 8 by 4", x.copies(0), 2);
        checks.equal("copies for 5 by 4", x.copies(1), 2);
        checks.equal("copies for no use", x.copies(2), 1);
        x.move(2, 9);
        checks.equal("copies for 9 by 4", x.copies(0), 3);
        checks.equal("copies for 10 by 4", x.copies(1), 3);
    }

    private static void unrolling() {
        LoopScheduler x = Samples.ring();
        x.schedule(9);
        checks.equal("unrolling of the ring", x.unrolling(), 1);
        checks.equal("unrolling of the fan", fan().unrolling(), 2);
        LoopScheduler empty = new LoopScheduler();
        empty.schedule(7);
        checks.equal("unrolling without operations", empty.unrolling(), 1);
        checks.equal("of 4 and 6", unrollingOf(4, 6), 12);
        checks.equal("of 6, 4 and 9", unrollingOf(6, 4, 9), 36);
        checks.equal("of 2, 3, 5 and 7", unrollingOf(2, 3, 5, 7), 210);
        checks.equal("of 8, 8 and 8", unrollingOf(8, 8, 8), 8);
        checks.equal("of 5 and 10", unrollingOf(5, 10), 10);
    }

    private static void greatUnrolling() {
        checks.equal("of 991 and 997", unrollingOf(991, 997), 988027);
        checks.equal("of 1000, 999", unrollingOf(1000, 999), 999000);
        checks.equal("of 991, 997 and 2", unrollingOf(991, 997, 2), 1000000);
        checks.equal("of 997, 991, 983, 977 and 971", unrollingOf(997, 991, 983, 977, 971), 1000000);
        checks.equal("of 512, 125 and 15", unrollingOf(512, 125, 15), 192000);
    }

    /** The unrolling where values live so long at the interval 1: all are used by one operation. */
    private static int unrollingOf(int... lifetimes) {
        LoopScheduler x = Samples.sixAtOnce();
        for (int i = 0; i < lifetimes.length; i++) {
            x.addDependence(i, 5, 0, 0);
        }
        x.schedule(1);
        x.move(5, 1000);
        for (int i = 0; i < lifetimes.length; i++) {
            x.move(i, 1000 - lifetimes[i]);
            checks.equal("copies of so long a life", x.copies(i), lifetimes[i]);
        }
        return x.unrolling();
    }
}
