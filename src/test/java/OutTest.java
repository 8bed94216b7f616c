/** Promise 7. */
final class OutTest {
    private static final Check check = new Check();

    public static void main(String[] args) {
        termsAreToldBehindOneAnother();
        outsideItIsNone();
        onlyTheFirstSixHundredAreKept();
        aTermThatIsCutOff();
        check.end();
    }

    private static void rowIs(ProcessMill mill, int... due) {
        for (int i = 0; i < due.length; i++) {
            check.same("out(" + i + ")", mill.out(i), due[i]);
        }
        check.same("out behind all", mill.out(due.length), ProcessMill.NONE);
        check.same("numbers printed", mill.total(6), due.length);
    }

    private static void termsAreToldBehindOneAnother() {
        ProcessMill mill = Mills.loaded(Mills.w(1, 0, -8), Mills.w(36, 0), Mills.w(2, 1, 9), Mills.w(36, 1),
                Mills.w(20, 2), Mills.w(36, 2), Mills.w(7, 3, 0, 1), Mills.w(7, 3, 3, 2), Mills.w(36, 3));
        mill.start(0, 1);
        mill.run(1);
        rowIs(mill, 0, -8, 1, 9, 2, 1, -1, -1, 0, -8, 1, 9, 2, 1);
    }

    private static void outsideItIsNone() {
        ProcessMill mill = Mills.loaded(Mills.w(36, 0), Mills.w(0));
        mill.start(0, 1);
        mill.run(1);
        int[] outside = {-1, 2, 599, 600, Integer.MIN_VALUE, Integer.MAX_VALUE};
        for (int i : outside) {
            check.same("out(" + i + ")", mill.out(i), ProcessMill.NONE);
        }
    }

    private static void onlyTheFirstSixHundredAreKept() {
        ProcessMill mill = Mills.loaded(Mills.w(1, 0, 3), Mills.w(36, 0), Mills.w(11, 1));
        mill.start(0, 1);
        mill.run(60);
        check.same("numbers printed", mill.total(6), 720);
        check.same("out(598)", mill.out(598), 0);
        check.same("out(599)", mill.out(599), 3);
        check.same("out(600)", mill.out(600), ProcessMill.NONE);
        check.same("out(719)", mill.out(719), ProcessMill.NONE);
    }

    private static void aTermThatIsCutOff() {
        ProcessMill mill = Mills.loaded(Mills.w(1, 0, 3), Mills.w(7, 1, 0, 0), Mills.w(36, 1), Mills.w(36, 0),
                Mills.w(36, 0), Mills.w(36, 0), Mills.w(36, 1), Mills.w(11, 6));
        mill.start(0, 1);
        mill.run(60);
        check.same("out(599), within a pair that begins at 596", mill.out(596), -1);
        check.same("out(597)", mill.out(597), 0);
        check.same("out(598)", mill.out(598), 3);
        check.same("out(599)", mill.out(599), 0);
        check.same("out(600)", mill.out(600), ProcessMill.NONE);
    }
}
