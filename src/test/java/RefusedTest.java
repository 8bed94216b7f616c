import java.util.ArrayList;
import java.util.List;
import java.util.function.Consumer;
import java.util.function.Supplier;

/** "A call that throws changes nothing": neither what can be asked at once, nor what comes of later calls. */
final class RefusedTest {
    private static final Check check = new Check();
    private static final int[] FAR = {Integer.MIN_VALUE, Integer.MAX_VALUE};

    private record Call(String name, Class<?> due, Consumer<ProcessMill> on) { }

    public static void main(String[] args) {
        inState("a new object", 0, ProcessMill::new);
        inState("a busy object", 6, RefusedTest::busy);
        inState("sixty processes", 60, RefusedTest::sixty);
        inState("a program of 300 words", 1, RefusedTest::wholeProgram);
        check.end();
    }

    private static void inState(String name, int pids, Supplier<ProcessMill> maker) {
        List<Call> refused = refusedCalls(pids);
        String before = State.of(maker);
        String later = State.of(() -> goneOn(maker.get()));
        check.same(name + ": later calls show something", before.equals(later), false);
        for (Call call : refused) {
            String what = name + ": " + call.name;
            check.same(what + " throws", thrown(maker.get(), call), call.due);
            check.sameText(what + " changes nothing", State.of(() -> after(maker.get(), call)), before);
            check.sameText(what + " changes nothing later", State.of(() -> goneOn(after(maker.get(), call))), later);
        }
        check.sameText(name + ": all of them change nothing", State.of(() -> afterAll(maker.get(), refused)), before);
        check.sameText(name + ": all of them change nothing later",
                State.of(() -> goneOn(afterAll(maker.get(), refused))), later);
    }

    private static Class<?> thrown(ProcessMill mill, Call call) {
        try {
            call.on.accept(mill);
        } catch (IllegalArgumentException | IllegalStateException e) {
            return e.getClass();
        }
        return null;
    }

    private static ProcessMill after(ProcessMill mill, Call call) {
        thrown(mill, call);
        return mill;
    }

    private static ProcessMill afterAll(ProcessMill mill, List<Call> calls) {
        for (Call call : calls) {
            thrown(mill, call);
        }
        return mill;
    }

    /** Calls that show what cannot be asked: words, times, watches, whose turn it is, who has a name. */
    private static ProcessMill goneOn(ProcessMill mill) {
        if (mill.total(0) < 2) {
            mill.start(299, 1);
            mill.start(0, 2);
        }
        mill.run(1);
        mill.run(24);
        mill.pass(3);
        mill.run(10);
        mill.pass(10000);
        mill.run(60);
        for (int pid = 1; pid <= Math.min(8, mill.total(0)); pid++) {
            mill.send(pid, pid);
        }
        mill.run(60);
        return mill;
    }

    private static List<Call> refusedCalls(int pids) {
        List<Call> calls = new ArrayList<>();
        refusedWords(calls);
        refusedStarts(calls, pids);
        refusedPids(calls, pids);
        for (int n : around(-1, 61)) {
            add(calls, "run(" + n + ")", m -> m.run(n));
        }
        for (int n : around(-1, 10001)) {
            add(calls, "pass(" + n + ")", m -> m.pass(n));
        }
        for (int what : around(-1, 9)) {
            add(calls, "total(" + what + ")", m -> m.total(what));
        }
        if (pids > 0) {
            refusedFacts(calls, pids);
        }
        return calls;
    }

    private static void refusedWords(List<Call> calls) {
        for (int at : around(-1, 300)) {
            add(calls, "word(" + at + ", 36, ..)", m -> m.word(at, 36, 0, 0, 0));
            add(calls, "word(" + at + ", 0, ..)", m -> m.word(at, 0, 0, 0, 0));
            add(calls, "word(" + at + ", 37, ..)", m -> m.word(at, 37, 0, 0, 0));
        }
        for (int operation : around(-1, 37)) {
            add(calls, "word(0, " + operation + ", ..)", m -> m.word(0, operation, 3, 3, 3));
            add(calls, "word(299, " + operation + ", ..)", m -> m.word(299, operation, 3, 3, 3));
        }
    }

    private static void refusedStarts(List<Call> calls, int pids) {
        for (int at : around(-1, 300)) {
            add(calls, "start(" + at + ", 1)", m -> m.start(at, 1));
        }
        for (int priority : around(-1, 3)) {
            add(calls, "start(0, " + priority + ")", m -> m.start(0, priority));
        }
        if (pids == 60) {
            calls.add(new Call("start(0, 0)", IllegalStateException.class, m -> m.start(0, 0)));
            calls.add(new Call("start(299, 2)", IllegalStateException.class, m -> m.start(299, 2)));
        }
    }

    private static void refusedPids(List<Call> calls, int pids) {
        for (int pid : around(0, pids + 1)) {
            add(calls, "send(" + pid + ", 5)", m -> m.send(pid, 5));
            add(calls, "process(" + pid + ", 0)", m -> m.process(pid, 0));
            add(calls, "register(" + pid + ", 0, 0)", m -> m.register(pid, 0, 0));
            add(calls, "message(" + pid + ", 0, 0)", m -> m.message(pid, 0, 0));
        }
    }

    private static void refusedFacts(List<Call> calls, int pids) {
        for (int pid : new int[] {1, pids}) {
            for (int what : around(-1, 11)) {
                add(calls, "process(" + pid + ", " + what + ")", m -> m.process(pid, what));
            }
            for (int register : around(-1, 9)) {
                add(calls, "register(" + pid + ", " + register + ", 0)", m -> m.register(pid, register, 0));
            }
        }
    }

    private static int[] around(int below, int above) {
        return new int[] {below, above, FAR[0], FAR[1]};
    }

    private static void add(List<Call> calls, String name, Consumer<ProcessMill> on) {
        calls.add(new Call(name, IllegalArgumentException.class, on));
    }

    /**
     * Pid 1 (name 8, traps) waits for 5 units, linked with pid 2 and watching it; pid 2 waits for a message and then
     * ends; pid 3 is dead; pids 4 and 5 are ready with unlike priorities; pid 6 goes through its mailbox.
     */
    private static ProcessMill busy() {
        ProcessMill mill = Mills.loaded(Mills.w(34, 8), Mills.w(33, 1), Mills.w(22, 1, 20), Mills.w(31, 2, 1),
                Mills.w(21, 3, 25), Mills.w(17, 10), Mills.w(1, 4, 5), Mills.w(28, 10, 4, 12));
        Mills.load(mill, 10, Mills.w(24, 12, 5), Mills.w(36, 5), Mills.w(36, 4), Mills.w(27, 10));
        Mills.load(mill, 20, Mills.w(27, 21), Mills.w(0));
        Mills.load(mill, 30, Mills.w(20, 0), Mills.w(36, 0), Mills.w(35, 6, 8), Mills.w(23, 6, 0), Mills.w(11, 30));
        Mills.load(mill, 40, Mills.w(15, 41), Mills.w(26), Mills.w(27, 43), Mills.w(25), Mills.w(16));
        mill.pass(7);
        mill.start(0, 0);
        mill.run(3);
        mill.start(30, 1);
        mill.start(30, 2);
        mill.start(40, 0);
        mill.send(6, 61);
        mill.run(1);
        return mill;
    }

    private static ProcessMill sixty() {
        ProcessMill mill = Mills.loaded(Mills.w(24, 2, 3), Mills.w(36, 3), Mills.w(20, 0), Mills.w(36, 0));
        for (int pid = 1; pid <= 60; pid++) {
            mill.start(0, pid % 3);
        }
        for (int k = 0; k < 40; k++) {
            mill.send(60, k);
        }
        return mill;
    }

    /** Every word has a part in what X0 becomes, so that a changed word shows. */
    private static ProcessMill wholeProgram() {
        ProcessMill mill = Mills.loaded(Mills.w(1, 1, 31), Mills.w(1, 2, 7));
        for (int at = 2; at < 300; at++) {
            mill.word(at, at % 2 == 0 ? 6 : 4, 0, 0, at % 2 == 0 ? 1 : 2);
        }
        mill.start(0, 1);
        return mill;
    }
}
