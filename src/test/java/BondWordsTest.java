/** Words 29 .. 36: links, watches, exits, trapping, names. */
final class BondWordsTest {
    private static final Check check = new Check();
    private static final int[] KILL_X2 = Mills.w(2, 2, 1);

    public static void main(String[] args) {
        linking();
        linkingWithTheDead();
        watching();
        watchingTheDead();
        twoHundredWatches();
        watchesThatGoOnNoMore();
        exits();
        exitsToItself();
        killing();
        trapping();
        names();
        whatIsNoPidIsBad();
        check.end();
    }

    /** A process (pid 1) that makes another (pid 2, in X1, which waits) and does the words, then waits. */
    private static ProcessMill pair(int[]... words) {
        ProcessMill mill = new ProcessMill();
        mill.word(0, 21, 1, 200, 0);
        Mills.load(mill, 1, words);
        mill.word(1 + words.length, 27, 1 + words.length, 0, 0);
        mill.word(200, 27, 200, 0, 0);
        mill.start(0, 1);
        mill.run(1);
        mill.run(1);
        return mill;
    }

    private static void linking() {
        ProcessMill mill = pair(Mills.w(29, 1), Mills.w(29, 1), Mills.w(20, 2), Mills.w(29, 2));
        check.same("links of 1", mill.process(1, 7), 1);
        check.same("links of 2", mill.process(2, 7), 1);
        ProcessMill off = pair(Mills.w(29, 1), Mills.w(30, 1), Mills.w(30, 1), Mills.w(20, 2), Mills.w(30, 2));
        check.same("links of 1", off.process(1, 7), 0);
        check.same("links of 2", off.process(2, 7), 0);
        check.same("both wait", off.total(2), 0);
        ProcessMill dies = pair(Mills.w(29, 1), Mills.w(2, 2, 60), Mills.w(19, 2));
        check.same("the other dies of the reason", Mills.reason(dies, 2), "a60");
        check.same("links of 1", dies.process(1, 7), 0);
        check.same("links of 2", dies.process(2, 7), 0);
        ProcessMill free = pair(Mills.w(29, 1), Mills.w(30, 1), Mills.w(2, 2, 60), Mills.w(19, 2));
        check.same("without a link it does not", free.process(2, 0), Mills.WAITS);
        ProcessMill normal = pair(Mills.w(29, 1), Mills.w(0));
        check.same("of normal it does not", normal.process(2, 0), Mills.WAITS);
        check.same("but the link is off", normal.process(2, 7), 0);
    }

    private static void linkingWithTheDead() {
        ProcessMill mill = pair(KILL_X2, Mills.w(32, 1, 2), Mills.w(17, 50), Mills.w(29, 1));
        check.same("it dies of nobody, and catches nothing", Mills.reason(mill, 1), "a3");
        check.same("by word 4", mill.process(1, 1), 5);
        ProcessMill traps = pair(KILL_X2, Mills.w(32, 1, 2), Mills.w(33, 1), Mills.w(29, 1));
        check.same("its message", Mills.messages(traps, 1), "(a6 (p2 a3))");
        check.same("links", traps.process(1, 7), 0);
    }

    private static void watching() {
        ProcessMill mill = pair(Mills.w(31, 3, 1), Mills.w(31, 1, 1));
        check.same("the number of the first", Mills.register(mill, 1, 3), "1");
        check.same("the number of the second, in the register of the pid", Mills.register(mill, 1, 1), "2");
        mill.word(200, 2, 4, 70, 0);
        mill.word(201, 19, 4, 0, 0);
        mill.send(2, 1);
        mill.run(1);
        check.same("the messages", Mills.messages(mill, 1), "(a7 (1 (p2 a70))) (a7 (2 (p2 a70)))");
        check.same("watches made", mill.total(7), 2);
        ProcessMill itself = pair(Mills.w(20, 2), Mills.w(31, 3, 2), Mills.w(0));
        check.same("a watch of itself", itself.total(7), 1);
        check.same("messages that came", itself.total(8), 0);
    }

    private static void watchingTheDead() {
        ProcessMill mill = pair(KILL_X2, Mills.w(32, 1, 2), Mills.w(31, 3, 1));
        check.same("its message", Mills.messages(mill, 1), "(a7 (1 (p2 a3)))");
        check.same("its number", Mills.register(mill, 1, 3), "1");
        check.same("watches made", mill.total(7), 1);
    }

    private static void twoHundredWatches() {
        ProcessMill mill = Mills.loaded(Mills.w(20, 1), Mills.w(31, 2, 1), Mills.w(11, 1));
        Mills.load(mill, 50, Mills.w(1, 1, 9), Mills.w(31, 1, 1));
        Mills.load(mill, 60, Mills.w(20, 2), Mills.w(31, 1, 2), Mills.w(27));
        mill.start(0, 1);
        mill.run(60);
        check.same("the 201st", Mills.reason(mill, 1), "a5");
        check.same("watches made", mill.total(7), 200);
        check.same("the last number", Mills.register(mill, 1, 2), "200");
        mill.start(60, 1);
        mill.run(1);
        check.same("those of a dead one do not go on", Mills.register(mill, 2, 1), "201");
        mill.start(50, 1);
        mill.run(1);
        check.same("no pid", Mills.reason(mill, 3), "a4");
    }

    /** Pid 1 (name 8) waits. Pid 2 watches it 200 times, then waits; pid 3 tries the same. */
    private static ProcessMill twoHundredOfAnother() {
        ProcessMill mill = Mills.loaded(Mills.w(34, 8), Mills.w(27, 2));
        Mills.load(mill, 50, Mills.w(35, 1, 8), Mills.w(1, 2, 200), Mills.w(31, 3, 1), Mills.w(12, 55, 3, 2),
                Mills.w(11, 52), Mills.w(27, 56), Mills.w(25), Mills.w(20, 1), Mills.w(31, 3, 1), Mills.w(27, 59));
        mill.start(0, 1);
        mill.run(1);
        mill.start(50, 1);
        mill.run(60);
        check.same("200 watches of another", Mills.register(mill, 2, 3), "200");
        mill.start(50, 1);
        mill.run(1);
        check.same("no other can watch", Mills.reason(mill, 3), "a5");
        return mill;
    }

    private static void watchesThatGoOnNoMore() {
        ProcessMill watched = twoHundredOfAnother();
        watched.send(1, 1);
        watched.run(1);
        check.same("the watched one is dead", watched.process(1, 0), Mills.DEAD);
        check.same("its messages", watched.process(2, 5), 40);
        watched.run(1);
        check.same("the watcher can watch again", Mills.register(watched, 2, 3), "201");
        ProcessMill watcher = twoHundredOfAnother();
        watcher.word(56, 0, 0, 0, 0);
        watcher.send(2, 1);
        watcher.run(1);
        check.same("the watcher is dead", watcher.process(2, 0), Mills.DEAD);
        Mills.load(watcher, 70, Mills.w(35, 1, 8), Mills.w(31, 3, 1), Mills.w(27, 72));
        watcher.start(70, 1);
        watcher.run(1);
        check.same("another can watch", Mills.register(watcher, 4, 3), "201");
        watcher.send(1, 1);
        watcher.run(1);
        check.same("only its own message comes", Mills.messages(watcher, 4), "(a7 (201 (p1 a0)))");
    }

    private static void exits() {
        ProcessMill mill = pair(Mills.w(2, 2, 61), Mills.w(32, 1, 2));
        check.same("it dies of the reason", Mills.reason(mill, 2), "a61");
        check.same("it was at word 200, and has not run", mill.process(2, 1), 200);
        ProcessMill normal = pair(Mills.w(2, 2, 0), Mills.w(32, 1, 2));
        check.same("normal is nothing", normal.process(2, 0), Mills.WAITS);
        ProcessMill dead = pair(Mills.w(2, 2, 61), Mills.w(32, 1, 2), Mills.w(2, 2, 62), Mills.w(32, 1, 2));
        check.same("an exit for a dead one", Mills.reason(dead, 2), "a61");
        ProcessMill number = pair(Mills.w(1, 2, 0), Mills.w(32, 1, 2));
        check.same("the number 0 is not normal", Mills.reason(number, 2), "0");
    }

    private static void exitsToItself() {
        ProcessMill normal = pair(Mills.w(20, 2), Mills.w(2, 3, 0), Mills.w(32, 2, 3));
        check.same("normal from itself", Mills.reason(normal, 1), "a0");
        check.same("by word 3", normal.process(1, 1), 4);
        ProcessMill traps = pair(Mills.w(20, 2), Mills.w(33, 5), Mills.w(2, 3, 0), Mills.w(32, 2, 3));
        check.same("trapped from itself", Mills.messages(traps, 1), "(a6 (p1 a0))");
        ProcessMill kill = pair(Mills.w(20, 2), Mills.w(33, 5), Mills.w(2, 3, 1), Mills.w(32, 2, 3));
        check.same("kill from itself", Mills.reason(kill, 1), "a2");
    }

    private static void killing() {
        ProcessMill mill = Mills.loaded(Mills.w(22, 1, 50), Mills.w(22, 2, 60), Mills.w(27, 3), Mills.w(2, 3, 1),
                Mills.w(19, 3));
        Mills.load(mill, 50, Mills.w(33, 1), Mills.w(17, 50), Mills.w(27, 53), Mills.w(11, 53));
        Mills.load(mill, 60, Mills.w(27, 60));
        mill.start(0, 1);
        mill.run(3);
        mill.send(1, 1);
        mill.run(1);
        check.same("the first dies of kill itself", Mills.reason(mill, 1), "a1");
        check.same("kill by a link is trapped", Mills.messages(mill, 2), "(a6 (p1 a1))");
        check.same("kill by a link, not trapped", Mills.reason(mill, 3), "a1");
        Mills.load(mill, 70, Mills.w(21, 1, 50), Mills.w(27, 72), Mills.w(2, 2, 1), Mills.w(32, 1, 2));
        mill.start(70, 0);
        mill.run(2);
        check.same("the new one traps and catches", mill.process(5, 4) + mill.process(5, 9), 2);
        mill.send(4, 1);
        mill.run(1);
        check.same("kill by 32 is neither trapped nor caught", Mills.reason(mill, 5), "a2");
    }

    private static void trapping() {
        ProcessMill mill = pair(Mills.w(33, -1), Mills.w(33, 0));
        check.same("it does not trap any more", mill.process(1, 4), 0);
        ProcessMill on = pair(Mills.w(33, Integer.MIN_VALUE));
        check.same("it traps", on.process(1, 4), 1);
        ProcessMill full = new ProcessMill();
        Mills.load(full, 0, Mills.w(20, 1), Mills.w(33, 1), Mills.w(32, 1, 1), Mills.w(11, 2));
        full.start(0, 1);
        full.run(60);
        check.same("messages of a full mailbox", full.process(1, 5), 40);
        check.same("messages that came", full.total(8), 40);
        check.same("the last message", Mills.message(full, 1, 39), "(a6 (p1 p1))");
    }

    private static void names() {
        ProcessMill mill = pair(Mills.w(34, 0), Mills.w(17, 100), Mills.w(34, 1));
        check.same("a second name is bad", mill.process(1, 1), 101);
        ProcessMill again = Mills.loaded(Mills.w(34, 99), Mills.w(34, 99));
        again.start(0, 1);
        again.run(1);
        check.same("its own name again is bad", Mills.reason(again, 1), "a4");
        ProcessMill taken = Mills.loaded(Mills.w(34, 99), Mills.w(27, 5));
        taken.start(0, 1);
        taken.start(0, 1);
        taken.run(2);
        check.same("another's name is bad", Mills.reason(taken, 2), "a4");
        check.same("name of the first", taken.process(1, 3), 99);
        check.same("name of the second", taken.process(2, 3), ProcessMill.NONE);
        taken.send(1, 1);
        taken.run(1);
        taken.start(0, 1);
        taken.run(1);
        check.same("a dead one's name is free", taken.process(3, 3), 99);
    }

    private static void whatIsNoPidIsBad() {
        int[][] others = {Mills.w(1, 1, 1), Mills.w(2, 1, 1), Mills.w(7, 1, 1, 1)};
        for (int[] other : others) {
            for (int operation = 29; operation <= 32; operation++) {
                int[] word = operation == 31 ? Mills.w(31, 2, 1) : Mills.w(operation, 1, 2);
                check.same("word " + operation, Mills.reason(pair(other, word), 1), "a4");
            }
        }
        check.same("no watch is made", pair(others[0], Mills.w(31, 2, 1)).total(7), 0);
    }
}
