import java.util.Random;
import java.util.function.LongSupplier;

/** Random programs and calls, with a fixed seed: the mill answers what the plain mill answers. */
final class RandomRunsTest {
    private static final int RUNS = 400;
    private static final int CALLS = 90;
    private static final Check check = new Check();

    public static void main(String[] args) {
        Random random = new Random(20261115);
        int[] seen = new int[9];
        for (int k = 0; k < RUNS; k++) {
            oneRun("run " + k, random, seen);
        }
        for (int what = 0; what < seen.length; what++) {
            check.same("something was seen of total " + what, seen[what] > 0, true);
        }
        check.end();
    }

    private static void oneRun(String name, Random random, int[] seen) {
        ProcessMill mill = new ProcessMill();
        PlainMill plain = new PlainMill();
        int words = 20 + random.nextInt(60);
        for (int at = 0; at < words; at++) {
            putWord(mill, plain, random, at, words);
        }
        mill.word(words, 11, 0, 0, 0);
        plain.word(words, 11, 0, 0, 0);
        for (int k = 0; k < CALLS; k++) {
            oneCall(name, mill, plain, random, words);
        }
        compareAll(name, mill, plain);
        for (int what = 0; what < seen.length; what++) {
            seen[what] += mill.total(what);
        }
    }

    /** Words that end or wait at once are rarer, so that programs live for a while. */
    private static int operation(Random random) {
        int[] rare = {0, 16, 19, 27};
        int operation = random.nextInt(37);
        for (int one : rare) {
            if (operation == one && random.nextInt(3) > 0) {
                return 20 + random.nextInt(17);
            }
        }
        return operation;
    }

    private static void putWord(ProcessMill mill, PlainMill plain, Random random, int at, int words) {
        int operation = random.nextInt(8) == 0 ? 17 : operation(random);
        boolean placeInA = operation >= 11 && operation <= 17 || operation == 24 || operation == 27 || operation == 28;
        boolean placeInB = operation == 21 || operation == 22;
        int a = placeInA ? random.nextInt(words) : random.nextInt(9) - 1;
        int b = placeInB ? random.nextInt(words) : random.nextInt(10) - 1;
        int c = operation == 28 ? random.nextInt(words) : random.nextInt(8);
        mill.word(at, operation, a, b, c);
        plain.word(at, operation, a, b, c);
    }

    private static void oneCall(String name, ProcessMill mill, PlainMill plain, Random random, int words) {
        int one = random.nextInt(70) - 2;
        int number = random.nextInt(40) - 4;
        switch (random.nextInt(9)) {
            case 0 -> both(name + " start", () -> mill.start(one, number % 4), () -> plain.start(one, number % 4));
            case 1, 2 -> both(name + " send", () -> mill.send(one, number) ? 1 : 0, () -> plain.send(one, number) ? 1 : 0);
            case 3 -> both(name + " pass", () -> mill.pass(number), () -> plain.pass(number));
            case 4 -> both(name + " register", () -> mill.register(one, number % 10, one), () -> plain.register(one, number % 10, one));
            case 5 -> both(name + " message", () -> mill.message(one, number, 3), () -> plain.message(one, number, 3));
            case 6 -> putWord(mill, plain, random, random.nextInt(words), words);
            default -> both(name + " run", () -> mill.run(one), () -> plain.run(one));
        }
        both(name + " total", () -> mill.total(number % 10), () -> plain.total(number % 10));
        both(name + " process", () -> mill.process(one, number % 12), () -> plain.process(one, number % 12));
    }

    private static void both(String name, LongSupplier mill, LongSupplier plain) {
        check.same(name, answer(mill), answer(plain));
    }

    private static String answer(LongSupplier call) {
        try {
            return "" + call.getAsLong();
        } catch (IllegalArgumentException | IllegalStateException e) {
            return e.getClass().getSimpleName();
        }
    }

    private static void compareAll(String name, ProcessMill mill, PlainMill plain) {
        for (int what = 0; what <= 8; what++) {
            check.same(name + " total " + what, mill.total(what), plain.total(what));
        }
        for (int i = -1; i <= 601; i++) {
            check.same(name + " out " + i, mill.out(i), plain.out(i));
        }
        for (int pid = 1; pid <= plain.total(0); pid++) {
            compareProcess(name + " pid " + pid, mill, plain, pid);
        }
    }

    private static void compareProcess(String name, ProcessMill mill, PlainMill plain, int pid) {
        for (int what = 0; what <= 10; what++) {
            check.same(name + " fact " + what, mill.process(pid, what), plain.process(pid, what));
        }
        for (int i = -1; i <= 96; i++) {
            for (int register = 0; register <= 8; register++) {
                check.same(name + " register", mill.register(pid, register, i), plain.register(pid, register, i));
            }
        }
        for (int k = -1; k <= plain.process(pid, 5); k++) {
            for (int i = 0; i <= 30; i++) {
                check.same(name + " message", mill.message(pid, k, i), plain.message(pid, k, i));
            }
        }
    }
}
