import java.util.ArrayList;
import java.util.List;

/**
 * "a, b, c that are no register where one is wanted are taken modulo 8, words modulo 300, atoms modulo 100 (rounded
 * down)": of each operation and each of its parts, at the last that is one and the first that is none, at both ends.
 */
final class ModuloTest {
    private static final Check check = new Check();
    private static final int LEAST = Integer.MIN_VALUE;
    private static final int MOST = Integer.MAX_VALUE;

    /** What a, b and c of each operation are: a register, a word, an atom, or (-) not wanted or taken as it is. */
    private static final String[] PARTS = {
        "---", "r--", "ra-", "rr-", "rrr", "rrr", "rrr", "rrr", "rr-", "rr-",
        "rr-", "w--", "wrr", "wrr", "wrr", "w--", "---", "w--", "---", "r--",
        "r--", "rwr", "rwr", "rr-", "wr-", "---", "---", "w--", "wrw", "r--",
        "r--", "rr-", "rr-", "---", "a--", "ra-", "r--",
    };

    /** Rows of numbers that mean the same: the first is as it may be, the others are not. */
    private static final int[][] REGISTERS = {{0, 8, -8, 16, LEAST}, {7, 15, -1, -9, MOST}};
    private static final int[][] WORDS = {{0, 300, -300, 2147483400}, {299, 599, -1, -301}, {247, MOST}, {52, LEAST}};
    private static final int[][] ATOMS = {{0, 100, -100, 2147483600}, {99, 199, -1, -101}, {47, MOST}, {52, LEAST}};

    /** What is done behind the slice in which the word is done. */
    private enum Then { NOTHING, MAIL, TIME, SLICES }

    public static void main(String[] args) {
        for (int operation = 0; operation <= 36; operation++) {
            for (int part = 0; part < 3; part++) {
                if (PARTS[operation].charAt(part) != '-') {
                    eachRow(operation, part);
                }
            }
        }
        whatIsTakenAsItIs();
        check.end();
    }

    private static int[][] rowsOf(int operation, int part) {
        return switch (PARTS[operation].charAt(part)) {
            case 'r' -> REGISTERS;
            case 'w' -> WORDS;
            case 'a' -> ATOMS;
            default -> new int[][] {{0}};
        };
    }

    private static void eachRow(int operation, int part) {
        int[][] rows = rowsOf(operation, part);
        int[] others = {(part + 1) % 3, (part + 2) % 3};
        boolean told = false;
        for (int[] one : firstTwo(operation, others[0])) {
            for (int[] other : firstTwo(operation, others[1])) {
                int[] parts = new int[3];
                parts[others[0]] = one[0];
                parts[others[1]] = other[0];
                List<String> states = new ArrayList<>();
                for (int[] row : rows) {
                    states.add(sameForAll(operation, parts, part, row));
                }
                told |= !states.get(0).equals(states.get(1));
            }
        }
        check.same("operation " + operation + ": part " + part + " matters", told, true);
    }

    private static int[][] firstTwo(int operation, int part) {
        int[][] rows = rowsOf(operation, part);
        return rows.length < 2 ? rows : new int[][] {rows[0], rows[1]};
    }

    private static String sameForAll(int operation, int[] parts, int part, int[] row) {
        parts[part] = row[0];
        String due = states(operation, parts);
        for (int k = 1; k < row.length; k++) {
            parts[part] = row[k];
            boolean same = states(operation, parts).equals(due);
            check.same("operation " + operation + ": part " + part + ", " + row[k] + " is " + row[0], same, true);
        }
        return due;
    }

    private static String states(int operation, int[] parts) {
        StringBuilder all = new StringBuilder();
        for (Then then : thens(operation)) {
            all.append(State.of(() -> done(operation, parts, then)));
        }
        return all.toString();
    }

    private static Then[] thens(int operation) {
        return switch (operation) {
            case 24, 27 -> new Then[] {Then.NOTHING, Then.MAIL};
            case 28 -> new Then[] {Then.MAIL, Then.TIME};
            case 29, 30, 31, 32 -> new Then[] {Then.NOTHING, Then.SLICES};
            default -> new Then[] {Then.NOTHING};
        };
    }

    private static ProcessMill done(int operation, int[] parts, Then then) {
        ProcessMill mill = new ProcessMill();
        List<int[]> words = filling(operation);
        words.add(new int[] {operation, parts[0], parts[1], parts[2]});
        words.add(operation == 17 ? Mills.w(19, 0) : Mills.w(27, 250));
        Mills.load(mill, 100, words.toArray(new int[0][]));
        mill.word(250, 11, 250, 0, 0);
        if (operation == 35) {
            nameFour(mill);
        }
        int pid = mill.start(100, 0);
        if (operation == 24 && then == Then.MAIL) {
            mill.send(pid, 5);
        }
        mill.run(1);
        goOn(mill, pid, then);
        return mill;
    }

    private static void goOn(ProcessMill mill, int pid, Then then) {
        switch (then) {
            case MAIL -> mill.send(pid, 6);
            case TIME -> mill.pass(10);
            case SLICES -> mill.run(60);
            default -> { }
        }
    }

    /** Words that give each register a term of its own, of the kind that the operation wants. */
    private static List<int[]> filling(int operation) {
        List<int[]> words = new ArrayList<>();
        for (int k = 0; k < 8; k++) {
            switch (operation) {
                case 8, 9 -> words.add(Mills.w(7, k, k == 0 ? 1 : k - 1, (k + 1) % 8));
                case 23, 29, 31, 32 -> words.add(Mills.w(21, k, 200));
                case 30 -> words.add(Mills.w(22, k, 200));
                default -> words.add(Mills.w(1, k, 10 + k));
            }
        }
        if (operation == 10) {
            words.add(Mills.w(7, 7, 0, 1));
        }
        return words;
    }

    /** Processes with the names 0, 99, 47 and 52. */
    private static void nameFour(ProcessMill mill) {
        int[] names = {0, 99, 47, 52};
        for (int k = 0; k < names.length; k++) {
            Mills.load(mill, 210 + 2 * k, Mills.w(34, names[k]), Mills.w(27));
            mill.start(210 + 2 * k, 0);
            mill.run(1);
        }
    }

    private static void whatIsTakenAsItIs() {
        int[] numbers = {8, 100, 300, -1, LEAST, MOST};
        for (int n : numbers) {
            ProcessMill mill = Mills.loaded(Mills.w(1, 0, n), Mills.w(33, n), Mills.w(27));
            mill.start(0, 1);
            mill.run(1);
            check.same("the number " + n + " of word 1", Mills.register(mill, 1, 0), "" + n);
            check.same("the number " + n + " of word 33 is not 0", mill.process(1, 4), 1);
        }
    }
}
