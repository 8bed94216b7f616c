import java.util.List;
import java.util.Objects;

/** Counts the answers of one test class that are not as due, and ends it with exit code 1 if there are any. */
final class Check {
    private int wrong = 0;
    private int looked = 0;

    void same(String what, Object got, Object due) {
        looked++;
        if (!Objects.equals(got, due)) {
            wrong++;
            System.out.println(what + " answered " + got + ", due is " + due);
        }
    }

    /** Of two long texts only the first lines that differ are shown. */
    void sameText(String what, String got, String due) {
        List<String> gotLines = got.lines().toList();
        List<String> dueLines = due.lines().toList();
        int k = 0;
        while (k < gotLines.size() && k < dueLines.size() && gotLines.get(k).equals(dueLines.get(k))) {
            k++;
        }
        same(what, lineAt(gotLines, k), lineAt(dueLines, k));
    }

    private static String lineAt(List<String> lines, int k) {
        return k < lines.size() ? lines.get(k) : "(the end)";
    }

    void illegalArgument(String what, Runnable call) {
        throwing(what, IllegalArgumentException.class, call);
    }

    void illegalState(String what, Runnable call) {
        throwing(what, IllegalStateException.class, call);
    }

    private void throwing(String what, Class<?> due, Runnable call) {
        Class<?> got = null;
        try {
            call.run();
        } catch (RuntimeException e) {
            got = e.getClass();
        }
        same(what + " throws", got, due);
    }

    void end() {
        System.out.println(looked + " answers looked at, " + wrong + " wrong");
        if (wrong != 0) {
            System.exit(1);
        }
    }
}
