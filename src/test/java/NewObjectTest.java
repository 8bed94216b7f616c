import java.lang.reflect.Constructor;
import java.lang.reflect.Field;
import java.lang.reflect.Method;
import java.lang.reflect.Modifier;
import java.util.Arrays;
import java.util.TreeSet;

/** Promise 1, and the public face. */
final class NewObjectTest {
    private static final Check check = new Check();

    public static void main(String[] args) {
        holdsNothing();
        allWordsAreZero();
        objectsShareNothing();
        theFaceIsTheDocuments();
        check.end();
    }

    private static void holdsNothing() {
        ProcessMill mill = new ProcessMill();
        for (int what = 0; what <= 8; what++) {
            check.same("total(" + what + ") of a new object", mill.total(what), 0);
        }
        check.same("run(60) of a new object", mill.run(60), 0);
        check.same("pass(10000) of a new object", mill.pass(10000), 0);
        check.same("out(0) of a new object", mill.out(0), ProcessMill.NONE);
        check.illegalArgument("process(1, 0) of a new object", () -> mill.process(1, 0));
        check.same("slices where nothing was ready", mill.total(3), 0);
    }

    private static void allWordsAreZero() {
        for (int at = 0; at < 300; at++) {
            ProcessMill mill = new ProcessMill();
            mill.start(at, 1);
            mill.run(1);
            check.same("reason of one at word " + at, Mills.reason(mill, 1), "a0");
            check.same("words of one at word " + at, mill.process(1, 10), 1);
            check.same("the word behind " + at, mill.process(1, 1), at == 299 ? 0 : at + 1);
        }
    }

    private static void objectsShareNothing() {
        ProcessMill one = new ProcessMill();
        one.word(0, 11, 0, 0, 0);
        one.start(0, 1);
        one.run(3);
        ProcessMill other = new ProcessMill();
        check.same("start on the other object", other.start(0, 1), 1);
        check.same("run on the other object", other.run(3), 1);
        check.same("words of the other object", other.total(4), 1);
    }

    private static void theFaceIsTheDocuments() {
        check.same("NONE", ProcessMill.NONE, -1);
        TreeSet<String> names = new TreeSet<>();
        for (Method method : ProcessMill.class.getDeclaredMethods()) {
            if (!Modifier.isPrivate(method.getModifiers())) {
                names.add(method.getName() + Arrays.toString(method.getParameterTypes()) + method.getReturnType());
            }
        }
        for (Field field : ProcessMill.class.getDeclaredFields()) {
            if (!Modifier.isPrivate(field.getModifiers())) {
                names.add(field.getName());
            }
        }
        for (Constructor<?> constructor : ProcessMill.class.getDeclaredConstructors()) {
            names.add("new" + Arrays.toString(constructor.getParameterTypes()));
        }
        check.same("the face", names.toString(), "[NONE, message[int, int, int]int, new[], out[int]int,"
                + " pass[int]int, process[int, int]int, register[int, int, int]int, run[int]int,"
                + " send[int, int]boolean, start[int, int]int, total[int]int,"
                + " word[int, int, int, int, int]void]");
        check.same("public and final", ProcessMill.class.getModifiers(), Modifier.PUBLIC | Modifier.FINAL);
    }
}
