/** Words 20 .. 27: pids, new processes, sending and going through a mailbox. */
final class MailWordsTest {
    private static final Check check = new Check();

    public static void main(String[] args) {
        newProcesses();
        sixtyAtMost();
        sendingByPid();
        sendingByName();
        sendingToNobody();
        whatSendsNowhereIsBad();
        aFullMailbox();
        termsAreCopied();
        goingThroughAMailbox();
        droppingWithoutAMessage();
        waiting();
        theSixtyFirstChangesNothing();
        aFullMailboxOfAnother();
        readingWhereThereIsNone();
        droppingAtEachPlace();
        thePointerStaysBehindTheLast();
        droppingFromAnEmptyMailbox();
        whoeverWaitsIsWokenOnce();
        bothKindsOfAddress();
        check.end();
    }

    private static void newProcesses() {
        ProcessMill mill = Mills.loaded(Mills.w(2, 1, 33), Mills.w(33, 1), Mills.w(34, 5), Mills.w(17, 9),
                Mills.w(21, 1, 50, 1), Mills.w(22, 2, 351, 1), Mills.w(27));
        mill.start(100, 0);
        mill.start(0, 2);
        mill.run(2);
        int[] due = {Mills.READY, 50, 2, ProcessMill.NONE, 0, 0, 0, 0, 0, 0, 0};
        for (int what = 0; what < due.length; what++) {
            check.same("fact " + what + " of a new one", mill.process(3, what), due[what]);
        }
        check.same("X1 of the maker", Mills.register(mill, 2, 1), "p3");
        check.same("X2 of the maker", Mills.register(mill, 2, 2), "p4");
        check.same("X0 of a new one is the maker's pid", Mills.register(mill, 3, 0), "p2");
        check.same("X1 of a new one is what Xc was", Mills.register(mill, 3, 1), "a33");
        check.same("X1 of the next one is what Xc was", Mills.register(mill, 4, 1), "p3");
        check.same("X2 of a new one", Mills.register(mill, 3, 2), "0");
        check.same("word 351 is 51", mill.process(4, 1), 51);
        check.same("links of the maker", mill.process(2, 7), 1);
        check.same("links of the one made by 21", mill.process(3, 7), 0);
        check.same("links of the one made by 22", mill.process(4, 7), 1);
    }

    private static void sixtyAtMost() {
        for (int operation = 21; operation <= 22; operation++) {
            ProcessMill mill = Mills.loaded(Mills.w(operation, 1, 50), Mills.w(11, 0));
            mill.word(50, 27, 50, 0, 0);
            mill.start(0, 0);
            mill.run(8);
            mill.run(60);
            check.same("processes", mill.total(0), 60);
            check.same("the maker died of", Mills.reason(mill, 1), "a5");
            check.same("X1 of the maker", Mills.register(mill, 1, 1), "p60");
            check.same("by the 60th making", mill.process(1, 10), 119);
        }
    }

    private static void sendingByPid() {
        ProcessMill mill = Mills.loaded(Mills.w(1, 0, 5), Mills.w(21, 1, 50), Mills.w(23, 1, 0), Mills.w(7, 2, 1, 0),
                Mills.w(23, 1, 2), Mills.w(20, 3), Mills.w(23, 3, 1), Mills.w(27, 7));
        mill.start(0, 1);
        mill.run(1);
        check.same("what came", Mills.messages(mill, 2), "5 (p2 5)");
        check.same("what came from itself", Mills.messages(mill, 1), "p2");
        check.same("messages that came", mill.total(8), 3);
    }

    private static void sendingByName() {
        ProcessMill mill = Mills.loaded(Mills.w(34, 7), Mills.w(27, 2), Mills.w(27, 100));
        Mills.load(mill, 50, Mills.w(2, 1, 7), Mills.w(23, 1, 1), Mills.w(35, 2, 7), Mills.w(35, 3, 8), Mills.w(27));
        mill.start(0, 1);
        mill.start(50, 1);
        mill.run(2);
        check.same("what came", Mills.messages(mill, 1), "a7");
        check.same("it is woken", mill.process(1, 0), Mills.READY);
        check.same("it is at", mill.process(1, 1), 2);
        check.same("the pid with the name", Mills.register(mill, 2, 2), "p1");
        check.same("the pid with no name", Mills.register(mill, 2, 3), "a3");
    }

    private static void sendingToNobody() {
        ProcessMill mill = Mills.loaded(Mills.w(21, 1, 50), Mills.w(27, 2), Mills.w(23, 1, 0), Mills.w(2, 2, 7),
                Mills.w(23, 2, 0), Mills.w(35, 3, 7), Mills.w(11, 6));
        Mills.load(mill, 50, Mills.w(34, 7), Mills.w(0));
        mill.start(0, 1);
        mill.run(2);
        mill.send(1, 1);
        mill.run(1);
        check.same("it went on", mill.process(1, 1), 6);
        check.same("a dead one has no name", Mills.register(mill, 1, 3), "a3");
        check.same("messages that came", mill.total(8), 1);
    }

    private static void whatSendsNowhereIsBad() {
        int[][] others = {Mills.w(1, 1, 1), Mills.w(7, 1, 1, 1)};
        for (int[] other : others) {
            ProcessMill mill = Mills.loaded(other, Mills.w(23, 1, 0));
            mill.start(0, 1);
            mill.run(1);
            check.same("the reason", Mills.reason(mill, 1), "a4");
        }
    }

    private static void aFullMailbox() {
        ProcessMill mill = Mills.loaded(Mills.w(20, 0), Mills.w(23, 0, 0), Mills.w(11, 1));
        mill.start(0, 1);
        mill.run(60);
        check.same("messages", mill.process(1, 5), 40);
        check.same("messages that came", mill.total(8), 40);
        check.same("it goes on", mill.process(1, 0), Mills.READY);
    }

    private static void termsAreCopied() {
        ProcessMill mill = Mills.loaded(Mills.w(20, 0), Mills.w(7, 1, 0, 0), Mills.w(23, 0, 1), Mills.w(7, 1, 1, 1),
                Mills.w(24, 100, 2), Mills.w(25), Mills.w(23, 0, 1), Mills.w(23, 0, 0), Mills.w(27, 8));
        mill.start(0, 1);
        mill.run(1);
        check.same("what was read stays", Mills.register(mill, 1, 2), "(p1 p1)");
        check.same("messages", Mills.messages(mill, 1), "((p1 p1) (p1 p1)) p1");
    }

    private static void goingThroughAMailbox() {
        ProcessMill mill = Mills.loaded(Mills.w(24, 100, 1), Mills.w(26), Mills.w(24, 100, 2), Mills.w(26),
                Mills.w(24, 100, 3), Mills.w(26), Mills.w(26), Mills.w(26), Mills.w(24, 20, 1));
        Mills.load(mill, 20, Mills.w(25), Mills.w(26), Mills.w(27, 23));
        Mills.load(mill, 23, Mills.w(25), Mills.w(11, 24));
        mill.start(0, 1);
        mill.send(1, 11);
        mill.send(1, 12);
        mill.send(1, 13);
        mill.run(1);
        check.same("X1", Mills.register(mill, 1, 1), "11");
        check.same("X2", Mills.register(mill, 1, 2), "12");
        check.same("X3", Mills.register(mill, 1, 3), "13");
        check.same("without a message on to 20, then 21 and 22, 23", mill.process(1, 1), 23);
        check.same("the pointer went to the first, then to the next one", mill.process(1, 6), 1);
        mill.run(1);
        check.same("the second is gone", Mills.messages(mill, 1), "11 13");
        check.same("the pointer is at the first", mill.process(1, 6), 0);
    }

    private static void droppingWithoutAMessage() {
        ProcessMill mill = Mills.loaded(Mills.w(26), Mills.w(26), Mills.w(25), Mills.w(11, 4), Mills.w(26),
                Mills.w(27, 6));
        mill.start(0, 1);
        mill.send(1, 11);
        mill.run(1);
        check.same("nothing is gone", Mills.messages(mill, 1), "11");
        check.same("it waits behind the only message", mill.process(1, 6), 1);
        check.same("it waits", mill.process(1, 0), Mills.WAITS);
    }

    private static void waiting() {
        ProcessMill mill = Mills.loaded(Mills.w(27, 10));
        mill.word(10, 26, 0, 0, 0);
        mill.word(11, 27, 20, 0, 0);
        mill.start(0, 1);
        mill.send(1, 1);
        mill.run(1);
        check.same("with a message it does not wait at word 0", mill.process(1, 1), 12);
        check.same("it waits at word 11", mill.process(1, 0), Mills.WAITS);
        check.same("words done", mill.process(1, 10), 3);
        mill.send(1, 2);
        check.same("on to a", mill.process(1, 1), 20);
        check.same("the pointer is at the new one", mill.process(1, 6), 1);
    }

    /** One starts 60 at most, with a catch: Xa stays, X0 is limit, and there are no more than 60. */
    private static void theSixtyFirstChangesNothing() {
        for (int operation = 21; operation <= 22; operation++) {
            ProcessMill mill = Mills.loaded(Mills.w(17, 100), Mills.w(1, 3, 5), Mills.w(operation, 2, 50, 3),
                    Mills.w(operation, 3, 50, 3), Mills.w(11, 4));
            mill.word(50, 27, 50, 0, 0);
            mill.word(100, 11, 100, 0, 0);
            for (int pid = 1; pid <= 58; pid++) {
                mill.start(50, 1);
            }
            mill.run(60);
            mill.start(0, 1);
            mill.run(1);
            check.same("the 60th", Mills.register(mill, 59, 2), "p60");
            check.same("Xa of the 61st stays", Mills.register(mill, 59, 3), "5");
            check.same("X0 is limit", Mills.register(mill, 59, 0), "a5");
            check.same("on to the catch", mill.process(59, 1), 100);
            check.same("processes", mill.total(0), 60);
            check.same("X1 of the 60th", Mills.register(mill, 60, 1), "5");
            check.same("links", mill.process(59, 7), operation == 22 ? 1 : 0);
            check.illegalState("a start", () -> mill.start(0, 1));
        }
    }

    private static void aFullMailboxOfAnother() {
        ProcessMill mill = Mills.loaded(Mills.w(34, 7), Mills.w(27, 2), Mills.w(25), Mills.w(11, 3));
        Mills.load(mill, 50, Mills.w(2, 1, 7), Mills.w(35, 2, 7), Mills.w(1, 3, 200), Mills.w(23, 1, 3),
                Mills.w(1, 3, 201), Mills.w(23, 2, 3), Mills.w(1, 3, 202), Mills.w(23, 2, 3), Mills.w(11, 58));
        mill.start(0, 2);
        mill.run(1);
        for (int k = 0; k < 38; k++) {
            mill.send(1, k);
        }
        mill.start(50, 1);
        mill.run(1);
        check.same("messages", mill.process(1, 5), 40);
        check.same("the 39th, by the name", Mills.message(mill, 1, 38), "200");
        check.same("the 40th, by the pid", Mills.message(mill, 1, 39), "201");
        check.same("messages that came", mill.total(8), 40);
        check.same("the one that sent goes on", mill.process(2, 1), 58);
    }

    private static void readingWhereThereIsNone() {
        ProcessMill empty = Mills.loaded(Mills.w(1, 3, 5), Mills.w(24, 50, 3));
        empty.word(50, 11, 50, 0, 0);
        empty.start(0, 1);
        empty.run(1);
        check.same("on to a", empty.process(1, 1), 50);
        check.same("Xb stays", Mills.register(empty, 1, 3), "5");
        ProcessMill behind = Mills.loaded(Mills.w(1, 3, 5), Mills.w(24, 60, 4), Mills.w(26), Mills.w(24, 50, 3));
        behind.word(50, 11, 50, 0, 0);
        behind.start(0, 1);
        behind.send(1, 9);
        behind.run(1);
        check.same("on to a behind the only message", behind.process(1, 1), 50);
        check.same("Xb stays", Mills.register(behind, 1, 3), "5");
        check.same("the message was read", Mills.register(behind, 1, 4), "9");
        check.same("and stays", Mills.messages(behind, 1), "9");
    }

    /** Moves the pointer so often, drops what is there; of so many messages. */
    private static void droppingAtEachPlace() {
        int[][] moves = {{0, 1}, {0, 3}, {1, 3}, {2, 3}, {3, 3}, {4, 3}, {0, 40}, {9, 40}};
        for (int[] row : moves) {
            ProcessMill mill = new ProcessMill();
            for (int k = 0; k < row[0]; k++) {
                mill.word(k, 26, 0, 0, 0);
            }
            Mills.load(mill, row[0], Mills.w(25), Mills.w(11, row[0] + 1));
            mill.start(0, 1);
            StringBuilder due = new StringBuilder();
            for (int k = 0; k < row[1]; k++) {
                mill.send(1, k);
                if (k != row[0]) {
                    due.append(due.length() == 0 ? "" : " ").append(k);
                }
            }
            mill.run(1);
            check.same("messages without " + row[0] + " of " + row[1], Mills.messages(mill, 1), due.toString());
            check.same("the pointer", mill.process(1, 6), 0);
            due.append(due.length() == 0 ? "" : " ").append(77);
            mill.send(1, 77);
            check.same("messages with one more", Mills.messages(mill, 1), due.toString());
        }
    }

    private static void thePointerStaysBehindTheLast() {
        for (int messages = 0; messages <= 3; messages++) {
            for (int moves = 0; moves <= 5; moves++) {
                ProcessMill mill = new ProcessMill();
                for (int k = 0; k < moves; k++) {
                    mill.word(k, 26, 0, 0, 0);
                }
                mill.word(moves, 11, moves, 0, 0);
                mill.start(0, 1);
                for (int k = 0; k < messages; k++) {
                    mill.send(1, k);
                }
                mill.run(1);
                check.same("the pointer, " + moves + " times on in " + messages, mill.process(1, 6),
                        Math.min(moves, messages));
            }
        }
    }

    private static void droppingFromAnEmptyMailbox() {
        ProcessMill mill = Mills.loaded(Mills.w(25), Mills.w(26), Mills.w(25), Mills.w(27, 9));
        mill.start(0, 1);
        mill.run(1);
        check.same("it waits", mill.process(1, 0), Mills.WAITS);
        check.same("the pointer", mill.process(1, 6), 0);
        ProcessMill behind = Mills.loaded(Mills.w(26), Mills.w(26), Mills.w(25), Mills.w(11, 3));
        behind.start(0, 1);
        behind.send(1, 5);
        behind.send(1, 6);
        behind.run(1);
        check.same("nothing goes from behind the last", Mills.messages(behind, 1), "5 6");
        check.same("the pointer is at the first", behind.process(1, 6), 0);
    }

    private static void whoeverWaitsIsWokenOnce() {
        ProcessMill mill = Mills.loaded(Mills.w(27, 10));
        mill.word(10, 11, 10, 0, 0);
        mill.word(20, 11, 20, 0, 0);
        mill.start(0, 1);
        mill.run(1);
        mill.send(1, 1);
        mill.start(20, 1);
        mill.send(1, 2);
        check.same("ready", mill.total(2), 2);
        mill.run(1);
        check.same("it is the first, as it was woken before", mill.process(1, 10), 13);
    }

    private static void bothKindsOfAddress() {
        int[][] addresses = {Mills.w(1, 1, 1), Mills.w(2, 1, 7), Mills.w(20, 1), Mills.w(7, 1, 2, 2)};
        String[] due = {"a4", "none", "none", "a4"};
        for (int k = 0; k < addresses.length; k++) {
            ProcessMill mill = Mills.loaded(Mills.w(34, 7), addresses[k], Mills.w(23, 1, 2), Mills.w(11, 3));
            mill.start(0, 1);
            mill.run(1);
            check.same("the reason with address " + k, Mills.reason(mill, 1), due[k]);
            check.same("messages that came with address " + k, mill.total(8), due[k].equals("none") ? 1 : 0);
        }
    }
}
