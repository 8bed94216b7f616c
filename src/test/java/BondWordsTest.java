/** Words 29 .. 36: links, watches, exits, trapping, names. */
final class BondWordsTest {
    private static final Check check = new Check();
    private static final int[] KILL_X2 = Mills.w(2, 2, 1);

    public static void main(String[] args) {
        linking();
        linkingWithTheDead();
        watching();
        watchingTheDead();
        twoHundredWatches();
        watchesThatGoOnNoMore();
        exits();
        exitsToItself();
        killing();
        trapping();
        names();
        whatIsNoPidIsBad();
        theTwoHundredAndFirstIsCaught();
        twoHundredAndTheDead();
        watchesOfTheDeadDoNotGoOn();
        watchingTheDeadWithoutRoom();
        onlyTheAtomKillKills();
        onlyTheAtomNormalIsNothing();
        bondsWithItself();
        bondsWithTheDead();
        namesAtTheEdges();
        watchesOfManyByMany();
        check.end();
    }

    /** A process (pid 1) that makes another (pid 2, in X1, which waits) and does the words, then waits. */
    private static ProcessMill pair(int[]... words) {
        ProcessMill mill = new ProcessMill();
        mill.word(0, 21, 1, 200, 0);
        Mills.load(mill, 1, words);
        mill.word(1 + words.length, 27, 1 + words.length, 0, 0);
        mill.word(200, 27, 200, 0, 0);
        mill.start(0, 1);
        mill.run(1);
        mill.run(1);
        return mill;
    }

    private static void linking() {
        ProcessMill mill = pair(Mills.w(29, 1), Mills.w(29, 1), Mills.w(20, 2), Mills.w(29, 2));
        check.same("links of 1", mill.process(1, 7), 1);
        check.same("links of 2", mill.process(2, 7), 1);
        ProcessMill off = pair(Mills.w(29, 1), Mills.w(30, 1), Mills.w(30, 1), Mills.w(20, 2), Mills.w(30, 2));
        check.same("links of 1", off.process(1, 7), 0);
        check.same("links of 2", off.process(2, 7), 0);
        check.same("both wait", off.total(2), 0);
        ProcessMill dies = pair(Mills.w(29, 1), Mills.w(2, 2, 60), Mills.w(19, 2));
        check.same("the other dies of the reason", Mills.reason(dies, 2), "a60");
        check.same("links of 1", dies.process(1, 7), 0);
        check.same("links of 2", dies.process(2, 7), 0);
        ProcessMill free = pair(Mills.w(29, 1), Mills.w(30, 1), Mills.w(2, 2, 60), Mills.w(19, 2));
        check.same("without a link it does not", free.process(2, 0), Mills.WAITS);
        ProcessMill normal = pair(Mills.w(29, 1), Mills.w(0));
        check.same("of normal it does not", normal.process(2, 0), Mills.WAITS);
        check.same("but the link is off", normal.process(2, 7), 0);
    }

    private static void linkingWithTheDead() {
        ProcessMill mill = pair(KILL_X2, Mills.w(32, 1, 2), Mills.w(17, 50), Mills.w(29, 1));
        check.same("it dies of nobody, and catches nothing", Mills.reason(mill, 1), "a3");
        check.same("by word 4", mill.process(1, 1), 5);
        ProcessMill traps = pair(KILL_X2, Mills.w(32, 1, 2), Mills.w(33, 1), Mills.w(29, 1));
        check.same("its message", Mills.messages(traps, 1), "(a6 (p2 a3))");
        check.same("links", traps.process(1, 7), 0);
    }

    private static void watching() {
        ProcessMill mill = pair(Mills.w(31, 3, 1), Mills.w(31, 1, 1));
        check.same("the number of the first", Mills.register(mill, 1, 3), "1");
        check.same("the number of the second, in the register of the pid", Mills.register(mill, 1, 1), "2");
        mill.word(200, 2, 4, 70, 0);
        mill.word(201, 19, 4, 0, 0);
        mill.send(2, 1);
        mill.run(1);
        check.same("the messages", Mills.messages(mill, 1), "(a7 (1 (p2 a70))) (a7 (2 (p2 a70)))");
        check.same("watches made", mill.total(7), 2);
        ProcessMill itself = pair(Mills.w(20, 2), Mills.w(31, 3, 2), Mills.w(0));
        check.same("a watch of itself", itself.total(7), 1);
        check.same("messages that came", itself.total(8), 0);
    }

    private static void watchingTheDead() {
        ProcessMill mill = pair(KILL_X2, Mills.w(32, 1, 2), Mills.w(31, 3, 1));
        check.same("its message", Mills.messages(mill, 1), "(a7 (1 (p2 a3)))");
        check.same("its number", Mills.register(mill, 1, 3), "1");
        check.same("watches made", mill.total(7), 1);
    }

    private static void twoHundredWatches() {
        ProcessMill mill = Mills.loaded(Mills.w(20, 1), Mills.w(31, 2, 1), Mills.w(11, 1));
        Mills.load(mill, 50, Mills.w(1, 1, 9), Mills.w(31, 1, 1));
        Mills.load(mill, 60, Mills.w(20, 2), Mills.w(31, 1, 2), Mills.w(27));
        mill.start(0, 1);
        mill.run(60);
        check.same("the 201st", Mills.reason(mill, 1), "a5");
        check.same("watches made", mill.total(7), 200);
        check.same("the last number", Mills.register(mill, 1, 2), "200");
        mill.start(60, 1);
        mill.run(1);
        check.same("those of a dead one do not go on", Mills.register(mill, 2, 1), "201");
        mill.start(50, 1);
        mill.run(1);
        check.same("no pid", Mills.reason(mill, 3), "a4");
    }

    /** Pid 1 (name 8) waits. Pid 2 watches it 200 times, then waits; pid 3 tries the same. */
    private static ProcessMill twoHundredOfAnother() {
        ProcessMill mill = Mills.loaded(Mills.w(34, 8), Mills.w(27, 2));
        Mills.load(mill, 50, Mills.w(35, 1, 8), Mills.w(1, 2, 200), Mills.w(31, 3, 1), Mills.w(12, 55, 3, 2),
                Mills.w(11, 52), Mills.w(27, 56), Mills.w(25), Mills.w(20, 1), Mills.w(31, 3, 1), Mills.w(27, 59));
        mill.start(0, 1);
        mill.run(1);
        mill.start(50, 1);
        mill.run(60);
        check.same("200 watches of another", Mills.register(mill, 2, 3), "200");
        mill.start(50, 1);
        mill.run(1);
        check.same("no other can watch", Mills.reason(mill, 3), "a5");
        return mill;
    }

    private static void watchesThatGoOnNoMore() {
        ProcessMill watched = twoHundredOfAnother();
        watched.send(1, 1);
        watched.run(1);
        check.same("the watched one is dead", watched.process(1, 0), Mills.DEAD);
        check.same("its messages", watched.process(2, 5), 40);
        watched.run(1);
        check.same("the watcher can watch again", Mills.register(watched, 2, 3), "201");
        ProcessMill watcher = twoHundredOfAnother();
        watcher.word(56, 0, 0, 0, 0);
        watcher.send(2, 1);
        watcher.run(1);
        check.same("the watcher is dead", watcher.process(2, 0), Mills.DEAD);
        Mills.load(watcher, 70, Mills.w(35, 1, 8), Mills.w(31, 3, 1), Mills.w(27, 72));
        watcher.start(70, 1);
        watcher.run(1);
        check.same("another can watch", Mills.register(watcher, 4, 3), "201");
        watcher.send(1, 1);
        watcher.run(1);
        check.same("only its own message comes", Mills.messages(watcher, 4), "(a7 (201 (p1 a0)))");
    }

    private static void exits() {
        ProcessMill mill = pair(Mills.w(2, 2, 61), Mills.w(32, 1, 2));
        check.same("it dies of the reason", Mills.reason(mill, 2), "a61");
        check.same("it was at word 200, and has not run", mill.process(2, 1), 200);
        ProcessMill normal = pair(Mills.w(2, 2, 0), Mills.w(32, 1, 2));
        check.same("normal is nothing", normal.process(2, 0), Mills.WAITS);
        ProcessMill dead = pair(Mills.w(2, 2, 61), Mills.w(32, 1, 2), Mills.w(2, 2, 62), Mills.w(32, 1, 2));
        check.same("an exit for a dead one", Mills.reason(dead, 2), "a61");
        ProcessMill number = pair(Mills.w(1, 2, 0), Mills.w(32, 1, 2));
        check.same("the number 0 is not normal", Mills.reason(number, 2), "0");
    }

    private static void exitsToItself() {
        ProcessMill normal = pair(Mills.w(20, 2), Mills.w(2, 3, 0), Mills.w(32, 2, 3));
        check.same("normal from itself", Mills.reason(normal, 1), "a0");
        check.same("by word 3", normal.process(1, 1), 4);
        ProcessMill traps = pair(Mills.w(20, 2), Mills.w(33, 5), Mills.w(2, 3, 0), Mills.w(32, 2, 3));
        check.same("trapped from itself", Mills.messages(traps, 1), "(a6 (p1 a0))");
        ProcessMill kill = pair(Mills.w(20, 2), Mills.w(33, 5), Mills.w(2, 3, 1), Mills.w(32, 2, 3));
        check.same("kill from itself", Mills.reason(kill, 1), "a2");
    }

    private static void killing() {
        ProcessMill mill = Mills.loaded(Mills.w(22, 1, 50), Mills.w(22, 2, 60), Mills.w(27, 3), Mills.w(2, 3, 1),
                Mills.w(19, 3));
        Mills.load(mill, 50, Mills.w(33, 1), Mills.w(17, 50), Mills.w(27, 53), Mills.w(11, 53));
        Mills.load(mill, 60, Mills.w(27, 60));
        mill.start(0, 1);
        mill.run(3);
        mill.send(1, 1);
        mill.run(1);
        check.same("the first dies of kill itself", Mills.reason(mill, 1), "a1");
        check.same("kill by a link is trapped", Mills.messages(mill, 2), "(a6 (p1 a1))");
        check.same("kill by a link, not trapped", Mills.reason(mill, 3), "a1");
        Mills.load(mill, 70, Mills.w(21, 1, 50), Mills.w(27, 72), Mills.w(2, 2, 1), Mills.w(32, 1, 2));
        mill.start(70, 0);
        mill.run(2);
        check.same("the new one traps and catches", mill.process(5, 4) + mill.process(5, 9), 2);
        mill.send(4, 1);
        mill.run(1);
        check.same("kill by 32 is neither trapped nor caught", Mills.reason(mill, 5), "a2");
    }

    private static void trapping() {
        ProcessMill mill = pair(Mills.w(33, -1), Mills.w(33, 0));
        check.same("it does not trap any more", mill.process(1, 4), 0);
        ProcessMill on = pair(Mills.w(33, Integer.MIN_VALUE));
        check.same("it traps", on.process(1, 4), 1);
        ProcessMill full = new ProcessMill();
        Mills.load(full, 0, Mills.w(20, 1), Mills.w(33, 1), Mills.w(32, 1, 1), Mills.w(11, 2));
        full.start(0, 1);
        full.run(60);
        check.same("messages of a full mailbox", full.process(1, 5), 40);
        check.same("messages that came", full.total(8), 40);
        check.same("the last message", Mills.message(full, 1, 39), "(a6 (p1 p1))");
    }

    private static void names() {
        ProcessMill mill = pair(Mills.w(34, 0), Mills.w(17, 100), Mills.w(34, 1));
        check.same("a second name is bad", mill.process(1, 1), 101);
        ProcessMill again = Mills.loaded(Mills.w(34, 99), Mills.w(34, 99));
        again.start(0, 1);
        again.run(1);
        check.same("its own name again is bad", Mills.reason(again, 1), "a4");
        ProcessMill taken = Mills.loaded(Mills.w(34, 99), Mills.w(27, 5));
        taken.start(0, 1);
        taken.start(0, 1);
        taken.run(2);
        check.same("another's name is bad", Mills.reason(taken, 2), "a4");
        check.same("name of the first", taken.process(1, 3), 99);
        check.same("name of the second", taken.process(2, 3), ProcessMill.NONE);
        taken.send(1, 1);
        taken.run(1);
        taken.start(0, 1);
        taken.run(1);
        check.same("a dead one's name is free", taken.process(3, 3), 99);
    }

    private static void whatIsNoPidIsBad() {
        int[][] others = {Mills.w(1, 1, 1), Mills.w(2, 1, 1), Mills.w(7, 1, 1, 1)};
        for (int[] other : others) {
            for (int operation = 29; operation <= 32; operation++) {
                int[] word = operation == 31 ? Mills.w(31, 2, 1) : Mills.w(operation, 1, 2);
                check.same("word " + operation, Mills.reason(pair(other, word), 1), "a4");
            }
        }
        check.same("no watch is made", pair(others[0], Mills.w(31, 2, 1)).total(7), 0);
    }

    /** A mill in which pid 1 (name 8) waits and pid 2 watches it so many times, then does the words. */
    private static ProcessMill watchedTimes(int times, int[]... words) {
        ProcessMill mill = Mills.loaded(Mills.w(34, 8), Mills.w(27, 2));
        Mills.load(mill, 50, Mills.w(35, 1, 8), Mills.w(1, 2, times), Mills.w(31, 3, 1), Mills.w(12, 55, 3, 2),
                Mills.w(11, 52));
        Mills.load(mill, 55, words);
        mill.word(55 + words.length, 11, 55 + words.length, 0, 0);
        mill.word(100, 11, 100, 0, 0);
        mill.start(0, 1);
        mill.run(1);
        mill.start(50, 1);
        mill.run(60);
        mill.run(10);
        return mill;
    }

    private static void theTwoHundredAndFirstIsCaught() {
        ProcessMill fits = watchedTimes(199, Mills.w(17, 100), Mills.w(31, 4, 1));
        check.same("the 200th", Mills.register(fits, 2, 4), "200");
        check.same("it goes on", fits.process(2, 1), 57);
        ProcessMill fails = watchedTimes(200, Mills.w(17, 100), Mills.w(31, 4, 1));
        check.same("Xa of the 201st stays", Mills.register(fails, 2, 4), "0");
        check.same("X0 is limit", Mills.register(fails, 2, 0), "a5");
        check.same("on to the catch", fails.process(2, 1), 100);
        check.same("watches made", fails.total(7), 200);
        fails.send(1, 1);
        fails.run(2);
        check.same("what comes of the 200", fails.process(2, 5), 40);
        check.same("the first", Mills.message(fails, 2, 0), "(a7 (1 (p1 a0)))");
        check.same("the 40th", Mills.message(fails, 2, 39), "(a7 (40 (p1 a0)))");
    }

    /** Pid 3 is dead when it is watched: with 200 that go on that fails, too. */
    private static void twoHundredAndTheDead() {
        int[][] words = {Mills.w(21, 4, 200), Mills.w(2, 5, 1), Mills.w(32, 4, 5), Mills.w(17, 100),
            Mills.w(31, 6, 4)};
        ProcessMill fits = watchedTimes(199, words);
        check.same("its number", Mills.register(fits, 2, 6), "200");
        check.same("its message", Mills.messages(fits, 2), "(a7 (200 (p3 a3)))");
        ProcessMill fails = watchedTimes(200, words);
        check.same("no number", Mills.register(fails, 2, 6), "0");
        check.same("X0 is limit", Mills.register(fails, 2, 0), "a5");
        check.same("no message", fails.process(2, 5), 0);
        check.same("watches made", fails.total(7), 200);
    }

    private static void watchesOfTheDeadDoNotGoOn() {
        ProcessMill mill = watchedTimes(199, Mills.w(21, 4, 200), Mills.w(2, 5, 1), Mills.w(32, 4, 5),
                Mills.w(31, 6, 4), Mills.w(31, 6, 4), Mills.w(31, 7, 1), Mills.w(17, 100), Mills.w(31, 7, 1));
        check.same("two of a dead one", mill.process(2, 5), 2);
        check.same("the 200th that goes on", Mills.register(mill, 2, 7), "202");
        check.same("then it fails", Mills.register(mill, 2, 0), "a5");
        check.same("watches made", mill.total(7), 202);
    }

    private static void watchingTheDeadWithoutRoom() {
        ProcessMill mill = Mills.loaded(Mills.w(27, 1), Mills.w(21, 1, 200), Mills.w(2, 2, 1), Mills.w(32, 1, 2),
                Mills.w(31, 3, 1), Mills.w(31, 3, 1), Mills.w(33, 1), Mills.w(29, 1), Mills.w(11, 8));
        mill.start(0, 1);
        for (int k = 0; k < 39; k++) {
            mill.send(1, k);
        }
        mill.run(1);
        check.same("the number of the second", Mills.register(mill, 1, 3), "2");
        check.same("messages", mill.process(1, 5), 40);
        check.same("the 40th", Mills.message(mill, 1, 39), "(a7 (1 (p2 a3)))");
        check.same("messages that came", mill.total(8), 40);
        check.same("it goes on", mill.process(1, 1), 8);
    }

    /** What becomes of pid 2, which traps or not, by an exit of X2 from pid 1. */
    private static String exitOf(boolean traps, int[]... words) {
        ProcessMill mill = Mills.loaded(Mills.w(33, traps ? 1 : 0), Mills.w(34, 8), Mills.w(27, 20));
        mill.word(20, 11, 20, 0, 0);
        Mills.load(mill, 50, Mills.w(35, 1, 8));
        Mills.load(mill, 51, words);
        Mills.load(mill, 51 + words.length, Mills.w(32, 1, 2), Mills.w(27));
        mill.start(0, 1);
        mill.run(1);
        mill.start(50, 1);
        mill.run(1);
        return mill.process(1, 0) == Mills.DEAD ? Mills.reason(mill, 1) : Mills.messages(mill, 1);
    }

    private static void onlyTheAtomKillKills() {
        int[] killPair = Mills.w(7, 2, 2, 2);
        check.same("kill, trapped", exitOf(true, Mills.w(2, 2, 1)), "a2");
        check.same("kill", exitOf(false, Mills.w(2, 2, 1)), "a2");
        check.same("killed, trapped", exitOf(true, Mills.w(2, 2, 2)), "(a6 (p2 a2))");
        check.same("killed", exitOf(false, Mills.w(2, 2, 2)), "a2");
        check.same("atom 101 is kill", exitOf(true, Mills.w(2, 2, 101)), "a2");
        check.same("the number 1, trapped", exitOf(true, Mills.w(1, 2, 1)), "(a6 (p2 1))");
        check.same("the number 1", exitOf(false, Mills.w(1, 2, 1)), "1");
        check.same("the pid 1, trapped", exitOf(true, Mills.w(3, 2, 1)), "(a6 (p2 p1))");
        check.same("a pair of kill, trapped", exitOf(true, Mills.w(2, 2, 1), killPair), "(a6 (p2 (a1 a1)))");
        check.same("a pair of kill", exitOf(false, Mills.w(2, 2, 1), killPair), "(a1 a1)");
    }

    private static void onlyTheAtomNormalIsNothing() {
        check.same("normal", exitOf(false, Mills.w(2, 2, 0)), "");
        check.same("normal, trapped", exitOf(true, Mills.w(2, 2, 0)), "(a6 (p2 a0))");
        check.same("atom 100 is normal", exitOf(false, Mills.w(2, 2, 100)), "");
        check.same("atom 99", exitOf(false, Mills.w(2, 2, 99)), "a99");
        check.same("the number 0", exitOf(false, Mills.w(1, 2, 0)), "0");
        check.same("a pair of normal", exitOf(false, Mills.w(2, 2, 0), Mills.w(7, 2, 2, 2)), "(a0 a0)");
    }

    private static void bondsWithItself() {
        ProcessMill link = pair(Mills.w(20, 2), Mills.w(29, 2), Mills.w(30, 2));
        check.same("links", link.process(1, 7), 0);
        check.same("it goes on", link.process(1, 0), Mills.WAITS);
        ProcessMill traps = pair(Mills.w(33, 1), Mills.w(20, 2), Mills.w(29, 2));
        check.same("no message", traps.process(1, 5), 0);
        ProcessMill exit = pair(Mills.w(20, 2), Mills.w(2, 3, 9), Mills.w(17, 50), Mills.w(32, 2, 3));
        check.same("an exit from itself is not caught", Mills.reason(exit, 1), "a9");
    }

    private static void bondsWithTheDead() {
        ProcessMill off = pair(KILL_X2, Mills.w(32, 1, 2), Mills.w(30, 1), Mills.w(30, 1));
        check.same("a link with a dead one is off", off.process(1, 0), Mills.WAITS);
        ProcessMill exits = pair(Mills.w(33, 1), KILL_X2, Mills.w(32, 1, 2), Mills.w(32, 1, 2), Mills.w(32, 1, 1));
        check.same("exits for a dead one", exits.process(1, 5), 0);
        check.same("its reason stays", Mills.reason(exits, 2), "a2");
        ProcessMill itself = pair(KILL_X2, Mills.w(32, 1, 2), Mills.w(33, 1), Mills.w(29, 1), Mills.w(29, 1));
        check.same("each time an exit nobody", Mills.messages(itself, 1), "(a6 (p2 a3)) (a6 (p2 a3))");
    }

    /** Pid 1 has the name a, pid 2 wants the name b: bad if they are the same modulo 100. */
    private static void namesAtTheEdges() {
        int[][] names = {{0, 100}, {99, -1}, {0, -100}, {99, 199}, {0, 99}, {99, 100}, {0, 1}};
        for (int[] row : names) {
            ProcessMill mill = Mills.loaded(Mills.w(34, row[0]), Mills.w(27));
            Mills.load(mill, 20, Mills.w(34, row[1]), Mills.w(27));
            mill.start(0, 1);
            mill.start(20, 1);
            mill.run(2);
            boolean same = (row[1] + 1000) % 100 == row[0];
            check.same("names " + row[0] + " and " + row[1], Mills.reason(mill, 2), same ? "a4" : "none");
            check.same("the first keeps its name", mill.process(1, 3), row[0]);
        }
        ProcessMill both = Mills.loaded(Mills.w(34, 5), Mills.w(17, 9), Mills.w(34, 6));
        both.word(9, 11, 9, 0, 0);
        both.start(0, 1);
        both.run(1);
        check.same("the second name is bad", Mills.register(both, 1, 0), "a4");
        check.same("it keeps its first name", both.process(1, 3), 5);
        both.word(20, 34, 6, 0, 0);
        both.word(21, 27, 0, 0, 0);
        both.start(20, 0);
        both.run(1);
        check.same("the second name is nobody's", both.process(2, 3), 6);
    }

    /** Pids 1 to 3 (names 1 to 3) wait; pids 4 to 6 each watch them, in unlike orders; then pids 2, 1, 3 end. */
    private static void watchesOfManyByMany() {
        ProcessMill mill = new ProcessMill();
        for (int k = 1; k <= 3; k++) {
            Mills.load(mill, 10 * k, Mills.w(34, k), Mills.w(27, 10 * k + 2));
            mill.start(10 * k, 0);
        }
        int[][] orders = {{1, 2, 3}, {3, 1, 2}, {2, 2, 3}};
        for (int[] order : orders) {
            int at = 100 + 20 * mill.total(0);
            for (int k = 0; k < 3; k++) {
                Mills.load(mill, at + 2 * k, Mills.w(35, 1, order[k]), Mills.w(31, 2, 1));
            }
            mill.word(at + 6, 11, at + 6, 0, 0);
            mill.start(at, 1);
        }
        mill.run(6);
        int[] deaths = {2, 1, 3};
        for (int pid : deaths) {
            mill.send(pid, 0);
            mill.run(2);
        }
        check.same("not dead", mill.total(1), 3);
        check.same("of pid 4", Mills.messages(mill, 4), "(a7 (2 (p2 a0))) (a7 (1 (p1 a0))) (a7 (3 (p3 a0)))");
        check.same("of pid 5", Mills.messages(mill, 5), "(a7 (6 (p2 a0))) (a7 (5 (p1 a0))) (a7 (4 (p3 a0)))");
        check.same("of pid 6", Mills.messages(mill, 6), "(a7 (7 (p2 a0))) (a7 (8 (p2 a0))) (a7 (9 (p3 a0)))");
    }
}
