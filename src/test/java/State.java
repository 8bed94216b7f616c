import java.util.function.Supplier;
import java.util.function.ToIntFunction;

/**
 * All that can be asked of a mill, as text. The document promises nothing behind the 512th call on an object, so that
 * only so much is asked of one mill; the rest is asked of others that were made by the same calls.
 */
final class State {
    private static final int ASKED_OF_ONE = 100;
    private static final int KEPT_OF_PRINTED = 600;

    private final Supplier<Answers> maker;
    private final StringBuilder text = new StringBuilder();
    private Answers mill;
    private int asked = 0;

    private State(Supplier<Answers> maker) {
        this.maker = maker;
    }

    /** The maker answers a new mill on which the same calls were done, at most 412 of them. */
    static String of(Supplier<ProcessMill> maker) {
        return new State(() -> Answers.of(maker.get())).write();
    }

    static String of(PlainMill plain) {
        return new State(() -> plain).write();
    }

    private int ask(ToIntFunction<Answers> question) {
        if (asked % ASKED_OF_ONE == 0) {
            mill = maker.get();
        }
        asked++;
        return question.applyAsInt(mill);
    }

    private String write() {
        for (int k = 0; k <= 8; k++) {
            int what = k;
            add("total " + what, ask(m -> m.total(what)));
        }
        int printed = Math.min(KEPT_OF_PRINTED, ask(m -> m.total(6)));
        for (int k = 0; k <= printed; k++) {
            int i = k;
            add("out " + i, ask(m -> m.out(i)));
        }
        int pids = ask(m -> m.total(0));
        for (int pid = 1; pid <= pids; pid++) {
            writeProcess(pid);
        }
        return text.toString();
    }

    private void writeProcess(int pid) {
        for (int k = 0; k <= 10; k++) {
            int what = k;
            add("process " + pid + " " + what, ask(m -> m.process(pid, what)));
        }
        for (int k = 0; k <= 8; k++) {
            int register = k;
            add("register " + pid + " " + register, Mills.text(i -> ask(m -> m.register(pid, register, i))));
        }
        int messages = ask(m -> m.process(pid, 5));
        for (int n = 0; n <= messages; n++) {
            int k = n;
            add("message " + pid + " " + k, Mills.text(i -> ask(m -> m.message(pid, k, i))));
        }
    }

    private void add(String what, Object answer) {
        text.append(what).append(" is ").append(answer).append('\n');
    }
}
