import java.util.ArrayList;
import java.util.List;
import java.util.Random;
import java.util.function.Consumer;
import java.util.function.ToLongFunction;

/** Random programs and calls, with a fixed seed: the mill answers what the plain mill answers. */
final class RandomRunsTest {
    private static final int RUNS = 400;
    /** At most 81 words and three times these calls: with what the state asks no object gets more than 512. */
    private static final int CALLS = 90;
    private static final Check check = new Check();

    private final String name;
    private final Random random;
    private final ProcessMill mill = new ProcessMill();
    private final PlainMill plain = new PlainMill();
    private final List<Consumer<ProcessMill>> calls = new ArrayList<>();
    private final int words;

    private RandomRunsTest(String name, Random random) {
        this.name = name;
        this.random = random;
        words = 20 + random.nextInt(60);
    }

    public static void main(String[] args) {
        Random random = new Random(20261115);
        int[] seen = new int[9];
        for (int k = 0; k < RUNS; k++) {
            new RandomRunsTest("run " + k, random).run(seen);
        }
        for (int what = 0; what < seen.length; what++) {
            check.same("something was seen of total " + what, seen[what] > 0, true);
        }
        check.end();
    }

    private void run(int[] seen) {
        for (int at = 0; at < words; at++) {
            putWord(at);
        }
        word(words, 11, 0, 0, 0);
        for (int k = 0; k < CALLS; k++) {
            oneCall();
        }
        check.sameText(name, State.of(this::madeAgain), State.of(plain));
        for (int what = 0; what < seen.length; what++) {
            seen[what] += plain.total(what);
        }
    }

    private ProcessMill madeAgain() {
        ProcessMill again = new ProcessMill();
        for (Consumer<ProcessMill> call : calls) {
            call.accept(again);
        }
        return again;
    }

    /** Words that end or wait at once are rarer, so that programs live for a while. */
    private int operation() {
        int[] rare = {0, 16, 19, 27};
        int operation = random.nextInt(37);
        for (int one : rare) {
            if (operation == one && random.nextInt(3) > 0) {
                return 20 + random.nextInt(17);
            }
        }
        return operation;
    }

    private void putWord(int at) {
        int operation = random.nextInt(8) == 0 ? 17 : operation();
        boolean placeInA = operation >= 11 && operation <= 17 || operation == 24 || operation == 27 || operation == 28;
        boolean placeInB = operation == 21 || operation == 22;
        int a = placeInA ? random.nextInt(words) : random.nextInt(9) - 1;
        int b = placeInB ? random.nextInt(words) : random.nextInt(10) - 1;
        int c = operation == 28 ? random.nextInt(words) : random.nextInt(8);
        word(at, operation, a, b, c);
    }

    private void word(int at, int operation, int a, int b, int c) {
        calls.add(m -> m.word(at, operation, a, b, c));
        mill.word(at, operation, a, b, c);
        plain.word(at, operation, a, b, c);
    }

    private void oneCall() {
        int one = random.nextInt(70) - 2;
        int number = random.nextInt(40) - 4;
        switch (random.nextInt(9)) {
            case 0 -> both("start", m -> m.start(one, number % 4), p -> p.start(one, number % 4));
            case 1, 2 -> both("send", m -> m.send(one, number) ? 1 : 0, p -> p.send(one, number) ? 1 : 0);
            case 3 -> both("pass", m -> m.pass(number), p -> p.pass(number));
            case 4 -> both("register", m -> m.register(one, number % 10, one), p -> p.register(one, number % 10, one));
            case 5 -> both("message", m -> m.message(one, number, 3), p -> p.message(one, number, 3));
            case 6 -> putWord(random.nextInt(words));
            default -> both("run", m -> m.run(one), p -> p.run(one));
        }
        both("total", m -> m.total(number % 10), p -> p.total(number % 10));
        both("process", m -> m.process(one, number % 12), p -> p.process(one, number % 12));
    }

    private void both(String what, ToLongFunction<ProcessMill> ofMill, ToLongFunction<PlainMill> ofPlain) {
        calls.add(m -> answer(m, ofMill));
        check.same(name + " " + what, answer(mill, ofMill), answer(plain, ofPlain));
    }

    private static <T> String answer(T on, ToLongFunction<T> call) {
        try {
            return "" + call.applyAsLong(on);
        } catch (IllegalArgumentException | IllegalStateException e) {
            return e.getClass().getSimpleName();
        }
    }
}
