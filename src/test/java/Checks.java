/** Counts what is as it should be and what is not, and says the latter. */
final class Checks {
    /** Something that is called and answers; a boolean counts 1 or 0. */
    interface Call {
        long answer();
    }

    /** A call of the object given. */
    interface CallOf {
        long answer(LoopScheduler x);
    }

    /** Makes an object, the same one each time. */
    interface Maker {
        LoopScheduler make();
    }

    private final String name;
    private int passed;
    private int failed;

    Checks(String name) {
        this.name = name;
    }

    void equal(String what, long got, long due) {
        same(what, Long.toString(got), Long.toString(due));
    }

    void isTrue(String what, boolean got) {
        same(what, Boolean.toString(got), "true");
    }

    void isFalse(String what, boolean got) {
        same(what, Boolean.toString(got), "false");
    }

    void same(String what, String got, String due) {
        if (got.equals(due)) {
            passed++;
        } else {
            failed++;
            System.out.println(name + ": " + what + ": got " + got + ", due is " + due);
        }
    }

    /**
     * The call must throw just this class, and the object must answer afterwards as it did before. Each time it is
     * asked of a new object, for what an object answers after its 512th call is free.
     */
    void refuses(String what, Class<? extends RuntimeException> due, Maker maker, CallOf call) {
        LoopScheduler x = maker.make();
        String before = everything(x);
        same(what, outcome(() -> call.answer(x)), "throws." + due.getSimpleName());
        same(what + " changes nothing", everything(x), before);
    }

    /** The times of the operations from 0 on. */
    void times(String what, LoopScheduler x, int... due) {
        for (int i = 0; i < due.length; i++) {
            equal(what + ", time of " + i, x.time(i), due[i]);
        }
    }

    /** What a call answers, or which exception it throws; one that no throw statement threw is told as the machine's. */
    static String outcome(Call call) {
        try {
            return Long.toString(call.answer());
        } catch (RuntimeException thrown) {
            StackTraceElement[] trace = thrown.getStackTrace();
            String thrower = trace.length > 0 ? trace[0].getClassName() : "nobody";
            boolean ours = thrower.startsWith("LoopScheduler") || thrower.startsWith("Model");
            return (ours ? "throws." : "throws by machine.") + thrown.getClass().getSimpleName();
        }
    }

    static long number(boolean answer) {
        return answer ? 1 : 0;
    }

    /** All that an object answers about itself, so that two states can be compared. */
    static String everything(LoopScheduler x) {
        StringBuilder text = new StringBuilder();
        text.append(x.operationCount()).append(' ').append(x.dependenceCount()).append(' ');
        text.append(x.resourceBound()).append(' ').append(x.recurrenceBound()).append(' ');
        text.append(x.attempts()).append(' ').append(x.hasSchedule()).append(' ').append(x.digest());
        if (!x.hasSchedule()) {
            return text.toString();
        }
        text.append(' ').append(x.interval()).append(' ').append(x.registers()).append(' ').append(x.unrolling());
        for (int i = 0; i < x.operationCount(); i++) {
            text.append(" | ").append(x.time(i)).append(' ').append(x.freedom(i)).append(' ').append(x.lifetime(i));
        }
        for (int row = 0; row < x.interval(); row++) {
            text.append(" / ").append(x.live(row));
            for (int kind = 0; kind < 3; kind++) {
                text.append(' ').append(x.taken(row, kind));
            }
        }
        return text.toString();
    }

    /** The digest of promise 30 over the numbers given. */
    static long digestOf(int... numbers) {
        long d = 79;
        for (int x : numbers) {
            d = d * 31 + x;
        }
        return d;
    }

    void finish() {
        System.out.println(name + ": " + passed + " passed, " + failed + " failed");
        if (failed > 0 || passed == 0) {
            System.exit(1);
        }
    }
}
