/** Dying, and how exits spread. */
final class DyingTest {
    private static final Check check = new Check();

    public static void main(String[] args) {
        exitsSpreadAlongLinks();
        linksComeBeforeWatches();
        laterDeathsComeBehindEarlierOnes();
        whoDiesGetsNoMessages();
        aChainOfSixty();
        longReasonsAreLimited();
        aFullMailboxGetsNothing();
        theOneAtWorkDiesByItsOwnWord();
        theSliceOfTheDeadIsLost();
        exitsByWordAreLimited();
        theLastPlaceInAMailbox();
        nothingIsLeftOfTheDead();
        check.end();
    }

    /** Words at which a process takes the name and waits; on its first message it does the words behind. */
    private static void actor(ProcessMill mill, int at, int name, int[]... words) {
        mill.word(at, 34, name, 0, 0);
        mill.word(at + 1, 27, at + 2, 0, 0);
        mill.word(at + 2, 25, 0, 0, 0);
        Mills.load(mill, at + 3, words);
        mill.word(at + 3 + words.length, 27, at + 3 + words.length, 0, 0);
        mill.start(at, 1);
        mill.run(1);
    }

    private static void act(ProcessMill mill, int pid) {
        mill.send(pid, 0);
        mill.run(1);
    }

    private static int[] pidOf(int register, int name) {
        return Mills.w(35, register, name);
    }

    private static void exitsSpreadAlongLinks() {
        ProcessMill mill = new ProcessMill();
        actor(mill, 0, 11, Mills.w(2, 1, 70), Mills.w(19, 1));
        actor(mill, 20, 12, pidOf(1, 11), Mills.w(29, 1));
        actor(mill, 40, 13, pidOf(1, 12), Mills.w(29, 1));
        actor(mill, 60, 14, Mills.w(33, 1), pidOf(1, 13), Mills.w(29, 1));
        actor(mill, 80, 15, pidOf(1, 14), Mills.w(29, 1));
        for (int pid = 2; pid <= 5; pid++) {
            act(mill, pid);
        }
        act(mill, 1);
        check.same("the linked one", Mills.reason(mill, 2), "a70");
        check.same("the one linked with that", Mills.reason(mill, 3), "a70");
        check.same("the one that traps", Mills.messages(mill, 4), "(a6 (p3 a70))");
        check.same("it keeps its other link", mill.process(4, 7), 1);
        check.same("the one behind that", mill.process(5, 0), Mills.WAITS);
        check.same("not dead", mill.total(1), 2);
    }

    private static void linksComeBeforeWatches() {
        ProcessMill mill = new ProcessMill();
        actor(mill, 0, 11, Mills.w(0));
        actor(mill, 20, 12, Mills.w(33, 1), pidOf(1, 11), Mills.w(31, 2, 1), Mills.w(31, 2, 1), Mills.w(29, 1));
        actor(mill, 60, 13, Mills.w(33, 1), pidOf(1, 11), Mills.w(29, 1), Mills.w(31, 2, 1));
        act(mill, 3);
        act(mill, 2);
        act(mill, 1);
        check.same("of pid 2", Mills.messages(mill, 2), "(a6 (p1 a0)) (a7 (2 (p1 a0))) (a7 (3 (p1 a0)))");
        check.same("of pid 3", Mills.messages(mill, 3), "(a6 (p1 a0)) (a7 (1 (p1 a0)))");
        check.same("both are woken", mill.total(2), 2);
        mill.run(1);
        check.same("pid 2, the lower, was woken first", mill.process(2, 10) > mill.process(3, 10), true);
    }

    /** Pid 1 dies; pids 2 and 3 die by it; pid 4 traps and is linked with all and watches all. */
    private static void laterDeathsComeBehindEarlierOnes() {
        ProcessMill mill = new ProcessMill();
        actor(mill, 0, 11, Mills.w(2, 1, 70), Mills.w(19, 1));
        actor(mill, 20, 12, pidOf(1, 11), Mills.w(29, 1));
        actor(mill, 40, 13, pidOf(1, 11), Mills.w(29, 1), pidOf(1, 12), Mills.w(29, 1));
        actor(mill, 60, 14, Mills.w(33, 1), pidOf(1, 13), Mills.w(29, 1), Mills.w(31, 2, 1), pidOf(1, 11),
                Mills.w(29, 1), Mills.w(31, 2, 1), pidOf(1, 12), Mills.w(29, 1), Mills.w(31, 2, 1));
        act(mill, 2);
        act(mill, 3);
        act(mill, 4);
        act(mill, 1);
        check.same("in the order in which they died", Mills.messages(mill, 4),
                "(a6 (p1 a70)) (a7 (2 (p1 a70))) (a6 (p2 a70)) (a7 (3 (p2 a70))) (a6 (p3 a70)) (a7 (1 (p3 a70)))");
        check.same("links left", mill.process(4, 7), 0);
    }

    private static void whoDiesGetsNoMessages() {
        ProcessMill mill = new ProcessMill();
        actor(mill, 0, 11, Mills.w(2, 1, 70), Mills.w(19, 1));
        actor(mill, 20, 12, pidOf(1, 11), Mills.w(31, 2, 1), Mills.w(29, 1));
        act(mill, 2);
        int before = mill.total(8);
        mill.send(1, 0);
        mill.run(1);
        check.same("one message came, to pid 1", mill.total(8), before + 1);
        check.same("pid 2", Mills.reason(mill, 2), "a70");
        check.same("its name is off", mill.process(2, 3), ProcessMill.NONE);
    }

    private static void aChainOfSixty() {
        ProcessMill mill = Mills.loaded(Mills.w(17, 3), Mills.w(22, 1, 0, 1), Mills.w(18), Mills.w(27, 4),
                Mills.w(2, 1, 71), Mills.w(19, 1));
        mill.start(0, 1);
        mill.run(60);
        check.same("sixty wait", mill.total(1) * 100 + mill.total(2), 6000);
        mill.send(30, 1);
        mill.run(1);
        check.same("none is left", mill.total(1), 0);
        check.same("the first", Mills.reason(mill, 1), "a71");
        check.same("the last", Mills.reason(mill, 60), "a71");
    }

    /** Dies of a term of so many ends, linked with one that traps and watches it. */
    private static ProcessMill diesOf(int ends) {
        ProcessMill mill = Mills.loaded(Mills.w(33, 1), Mills.w(22, 1, 50), Mills.w(31, 2, 1), Mills.w(27, 4),
                Mills.w(11, 4));
        for (int k = 0; k < ends - 1; k++) {
            mill.word(50 + k, 7, 3, 3, 4);
        }
        mill.word(49 + ends, 19, 3, 0, 0);
        mill.start(0, 1);
        mill.run(10);
        return mill;
    }

    private static void longReasonsAreLimited() {
        ProcessMill mill = diesOf(31);
        check.same("31 ends", Mills.messages(mill, 1), "(a6 (p2 a5)) (a7 (1 (p2 a5)))");
        check.same("the reason itself is whole", Mills.reason(mill, 2).length() > 31, true);
        mill = diesOf(30);
        check.same("30 ends", Mills.message(mill, 1, 0), "(a6 (p2 " + Mills.reason(mill, 2) + "))");
        check.same("30 ends, watched", Mills.message(mill, 1, 1), "(a7 (1 (p2 a5)))");
        mill = diesOf(29);
        check.same("29 ends, watched", Mills.message(mill, 1, 1), "(a7 (1 (p2 " + Mills.reason(mill, 2) + ")))");
    }

    private static void aFullMailboxGetsNothing() {
        ProcessMill mill = new ProcessMill();
        actor(mill, 0, 11, Mills.w(0));
        actor(mill, 20, 12, Mills.w(33, 1), pidOf(1, 11), Mills.w(31, 2, 1), Mills.w(29, 1));
        act(mill, 2);
        for (int k = 0; k < 39; k++) {
            mill.send(2, k);
        }
        mill.word(27, 11, 27, 0, 0);
        act(mill, 1);
        act(mill, 1);
        check.same("pid 1 is dead", mill.process(1, 0), Mills.DEAD);
        check.same("messages", mill.process(2, 5), 40);
        check.same("the last one", Mills.message(mill, 2, 39), "(a6 (p1 a0))");
        check.same("the link is off", mill.process(2, 7), 0);
    }

    private static void theOneAtWorkDiesByItsOwnWord() {
        ProcessMill mill = Mills.loaded(Mills.w(22, 1, 50), Mills.w(2, 2, 70), Mills.w(32, 1, 2), Mills.w(36, 0));
        mill.start(0, 1);
        check.same("slices", mill.run(5), 1);
        check.same("it died by word 2", mill.process(1, 1), 3);
        check.same("words done", mill.process(1, 10), 3);
        check.same("nothing is printed", mill.total(6), 0);
        check.same("the other died where it was", mill.process(2, 1), 50);
        check.same("the reason came back", Mills.reason(mill, 1), "a70");
    }

    private static void theSliceOfTheDeadIsLost() {
        ProcessMill mill = Mills.loaded(Mills.w(22, 1, 50), Mills.w(22, 1, 50), Mills.w(2, 2, 70), Mills.w(32, 1, 2));
        mill.word(50, 11, 50, 0, 0);
        mill.start(0, 1);
        mill.start(50, 1);
        check.same("slices", mill.run(3), 3);
        check.same("only pid 2 is left", mill.total(1) * 10 + mill.total(2), 11);
        check.same("and had two slices", mill.process(2, 10), 24);
    }

    /** Pid 2 sends pid 1, which traps, an exit of so many ends. */
    private static String exitByWord(int ends) {
        ProcessMill mill = Mills.loaded(Mills.w(33, 1), Mills.w(34, 8), Mills.w(27, 20));
        mill.word(20, 11, 20, 0, 0);
        mill.word(50, 35, 1, 8, 0);
        for (int k = 1; k < ends; k++) {
            mill.word(50 + k, 7, 3, 3, 4);
        }
        Mills.load(mill, 50 + ends, Mills.w(32, 1, 3), Mills.w(27));
        mill.start(0, 2);
        mill.run(1);
        mill.start(50, 1);
        mill.run(4);
        check.same("pid 2 waits", mill.process(2, 0), Mills.WAITS);
        String due = "(a6 (p2 " + Mills.register(mill, 2, 3) + "))";
        return Mills.messages(mill, 1).equals(due) ? "whole" : Mills.messages(mill, 1);
    }

    private static void exitsByWordAreLimited() {
        check.same("an exit of 1 end", exitByWord(1), "whole");
        check.same("an exit of 29 ends", exitByWord(29), "whole");
        check.same("an exit of 30 ends", exitByWord(30), "whole");
        check.same("an exit of 31 ends", exitByWord(31), "(a6 (p2 a5))");
        check.same("an exit of 32 ends", exitByWord(32), "(a6 (p2 a5))");
        ProcessMill mill = diesOf(32);
        check.same("a death of 32 ends", Mills.messages(mill, 1), "(a6 (p2 a5)) (a7 (1 (p2 a5)))");
        check.same("the reason is whole", mill.register(2, 8, 94), 0);
    }

    /** With 38, 39 and 40 messages: an exit and a down find two, one and no places. */
    private static void theLastPlaceInAMailbox() {
        String[] due = {"37 (a6 (p2 a0)) (a7 (1 (p2 a0)))", "38 (a6 (p2 a0))", "39"};
        for (int k = 0; k < 3; k++) {
            ProcessMill mill = Mills.loaded(Mills.w(33, 1), Mills.w(22, 1, 50), Mills.w(31, 2, 1), Mills.w(11, 3));
            mill.start(0, 1);
            for (int n = 0; n < 38 + k; n++) {
                mill.send(1, n);
            }
            mill.run(2);
            check.same("pid 2 is dead", mill.process(2, 0), Mills.DEAD);
            check.same("messages", mill.process(1, 5), 40);
            check.same("messages that came", mill.total(8), 40);
            check.same("the last ones", Mills.messages(mill, 1).endsWith(" " + due[k]), true);
            check.same("links", mill.process(1, 7), 0);
        }
    }

    private static void nothingIsLeftOfTheDead() {
        ProcessMill mill = Mills.loaded(Mills.w(33, 1), Mills.w(34, 8), Mills.w(22, 1, 50), Mills.w(31, 2, 1),
                Mills.w(17, 90), Mills.w(15, 6), Mills.w(26), Mills.w(26), Mills.w(2, 3, 9), Mills.w(20, 4),
                Mills.w(33, 0), Mills.w(32, 4, 3));
        mill.word(50, 27, 0, 0, 0);
        mill.start(0, 1);
        mill.send(1, 1);
        mill.send(1, 2);
        mill.run(1);
        int[] due = {Mills.DEAD, 12, 1, ProcessMill.NONE, 0, 0, 0, 0, 0, 0, 12};
        for (int what = 0; what < due.length; what++) {
            check.same("fact " + what + " of the dead", mill.process(1, what), due[what]);
        }
        check.same("its messages", Mills.message(mill, 1, 0), "none");
        check.same("its registers stay", Mills.register(mill, 1, 1), "p2");
        check.same("the linked one died of it", Mills.reason(mill, 2), "a9");
        check.same("messages that came", mill.total(8), 2);
    }
}
