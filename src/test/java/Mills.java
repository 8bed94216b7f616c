import java.util.function.IntUnaryOperator;

/** Short ways for tests to load words into a mill and to read what it tells. */
final class Mills {
    static final int READY = 0;
    static final int WAITS = 1;
    static final int DEAD = 2;

    /** The longest row in which a term of 32 ends is told. */
    private static final int LONGEST = 95;

    private Mills() {
    }

    /** One word; what is left out of a, b, c is 0. */
    static int[] w(int... parts) {
        int[] word = new int[4];
        System.arraycopy(parts, 0, word, 0, parts.length);
        return word;
    }

    static void load(ProcessMill mill, int at, int[]... words) {
        for (int k = 0; k < words.length; k++) {
            int[] word = words[k];
            mill.word(at + k, word[0], word[1], word[2], word[3]);
        }
    }

    static ProcessMill loaded(int[]... words) {
        ProcessMill mill = new ProcessMill();
        load(mill, 0, words);
        return mill;
    }

    static String register(ProcessMill mill, int pid, int register) {
        return text(i -> mill.register(pid, register, i));
    }

    static String reason(ProcessMill mill, int pid) {
        return register(mill, pid, 8);
    }

    static String message(ProcessMill mill, int pid, int k) {
        return text(i -> mill.message(pid, k, i));
    }

    static String messages(ProcessMill mill, int pid) {
        StringBuilder all = new StringBuilder();
        for (int k = 0; k < mill.process(pid, 5); k++) {
            all.append(k == 0 ? "" : " ").append(message(mill, pid, k));
        }
        return all.toString();
    }

    /** All that was printed, term by term; for runs that print no more than is kept. */
    static String printed(ProcessMill mill) {
        StringBuilder all = new StringBuilder();
        int[] next = {0};
        while (next[0] < mill.total(6)) {
            all.append(all.length() == 0 ? "" : " ").append(write(mill::out, next));
        }
        return all.toString();
    }

    /** A term as text: 7, a7, p7 or (x y); "none" if nothing is told. */
    static String text(IntUnaryOperator told) {
        return isWhole(told) ? write(told, new int[] {0}) : "none";
    }

    private static boolean isWhole(IntUnaryOperator told) {
        int open = 1;
        int k = 0;
        while (open > 0 && k < LONGEST) {
            boolean pair = told.applyAsInt(k) == ProcessMill.NONE;
            open += pair ? 1 : -1;
            k += pair ? 1 : 2;
        }
        return open == 0;
    }

    private static String write(IntUnaryOperator told, int[] next) {
        int kind = told.applyAsInt(next[0]++);
        if (kind == ProcessMill.NONE) {
            String first = write(told, next);
            return "(" + first + " " + write(told, next) + ")";
        }
        int value = told.applyAsInt(next[0]++);
        return (kind == 0 ? "" : kind == 1 ? "a" : "p") + value;
    }
}
