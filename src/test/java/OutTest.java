/** Promise 7. */
final class OutTest {
    private static final Check check = new Check();

    public static void main(String[] args) {
        termsAreToldBehindOneAnother();
        outsideItIsNone();
        onlyTheFirstSixHundredAreKept();
        aTermThatIsCutOff();
        theSixHundredth();
        everyNumberOfTheFirstSixHundred();
        pairsAreNotCutBeforeTheSixHundredth();
        check.end();
    }

    private static void rowIs(ProcessMill mill, int... due) {
        for (int i = 0; i < due.length; i++) {
            check.same("out(" + i + ")", mill.out(i), due[i]);
        }
        check.same("out behind all", mill.out(due.length), ProcessMill.NONE);
        check.same("numbers printed", mill.total(6), due.length);
    }

    private static void termsAreToldBehindOneAnother() {
        ProcessMill mill = Mills.loaded(Mills.w(1, 0, -8), Mills.w(36, 0), Mills.w(2, 1, 9), Mills.w(36, 1),
                Mills.w(20, 2), Mills.w(36, 2), Mills.w(7, 3, 0, 1), Mills.w(7, 3, 3, 2), Mills.w(36, 3));
        mill.start(0, 1);
        mill.run(1);
        rowIs(mill, 0, -8, 1, 9, 2, 1, -1, -1, 0, -8, 1, 9, 2, 1);
    }

    private static void outsideItIsNone() {
        ProcessMill mill = Mills.loaded(Mills.w(36, 0), Mills.w(0));
        mill.start(0, 1);
        mill.run(1);
        int[] outside = {-1, 2, 599, 600, Integer.MIN_VALUE, Integer.MAX_VALUE};
        for (int i : outside) {
            check.same("out(" + i + ")", mill.out(i), ProcessMill.NONE);
        }
    }

    private static void onlyTheFirstSixHundredAreKept() {
        ProcessMill mill = Mills.loaded(Mills.w(1, 0, 3), Mills.w(36, 0), Mills.w(11, 1));
        mill.start(0, 1);
        mill.run(60);
        check.same("numbers printed", mill.total(6), 720);
        check.same("out(598)", mill.out(598), 0);
        check.same("out(599)", mill.out(599), 3);
        check.same("out(600)", mill.out(600), ProcessMill.NONE);
        check.same("out(719)", mill.out(719), ProcessMill.NONE);
    }

    private static void aTermThatIsCutOff() {
        ProcessMill mill = Mills.loaded(Mills.w(1, 0, 3), Mills.w(7, 1, 0, 0), Mills.w(36, 1), Mills.w(36, 0),
                Mills.w(36, 0), Mills.w(36, 0), Mills.w(36, 1), Mills.w(11, 6));
        mill.start(0, 1);
        mill.run(60);
        check.same("out(599), within a pair that begins at 596", mill.out(596), -1);
        check.same("out(597)", mill.out(597), 0);
        check.same("out(598)", mill.out(598), 3);
        check.same("out(599)", mill.out(599), 0);
        check.same("out(600)", mill.out(600), ProcessMill.NONE);
    }

    /** Prints so many numbers: terms of two numbers each, before them a pair of five if they are odd. */
    private static ProcessMill printed(int numbers) {
        ProcessMill mill = Mills.loaded(Mills.w(1, 0, 8), Mills.w(7, 1, 0, 0));
        int at = 2;
        if (numbers % 2 == 1) {
            mill.word(at, 36, 1, 0, 0);
            at++;
        }
        mill.word(at, 1, 3, numbers / 2 - numbers % 2 * 2, 0);
        Mills.load(mill, at + 1, Mills.w(1, 4, 1), Mills.w(12, at + 7, 3, 5), Mills.w(36, 0), Mills.w(5, 3, 3, 4),
                Mills.w(11, at + 2));
        mill.start(0, 1);
        mill.run(60);
        mill.run(60);
        mill.run(60);
        check.same("it has printed and ended", mill.process(1, 0), Mills.DEAD);
        check.same("numbers printed", mill.total(6), numbers);
        return mill;
    }

    private static void theSixHundredth() {
        int[] counts = {598, 599, 600, 601, 602};
        for (int count : counts) {
            ProcessMill mill = printed(count);
            for (int i = 596; i <= 603; i++) {
                int due = i >= count || i >= 600 ? ProcessMill.NONE : i % 2 == count % 2 ? 0 : 8;
                check.same("out(" + i + ") of " + count, mill.out(i), due);
            }
        }
    }

    private static void everyNumberOfTheFirstSixHundred() {
        ProcessMill even = printed(700);
        ProcessMill same = printed(700);
        for (int i = 0; i < 400; i++) {
            check.same("out(" + i + ")", even.out(i), i % 2 == 0 ? 0 : 8);
            check.same("out(" + (i + 300) + ")", same.out(i + 300), i >= 300 ? -1 : i % 2 == 0 ? 0 : 8);
        }
    }

    private static void pairsAreNotCutBeforeTheSixHundredth() {
        ProcessMill mill = Mills.loaded(Mills.w(7), Mills.w(7), Mills.w(7), Mills.w(7), Mills.w(7), Mills.w(36, 0),
                Mills.w(11, 5));
        mill.start(0, 1);
        mill.run(2);
        check.same("numbers printed, of terms of 95", mill.total(6), 10 * 95);
        check.same("the last one of the sixth term", mill.out(569), 0);
        check.same("the sign of the seventh", mill.out(570), -1);
        check.same("the first number of an end of it", mill.out(575), 0);
        check.same("the last sign kept, within it", mill.out(597), -1);
        check.same("the last number kept", mill.out(599), 0);
        check.same("behind it", mill.out(600), ProcessMill.NONE);
    }
}
