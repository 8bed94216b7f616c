/** What can be asked, of the mill and of the plain mill alike. */
interface Answers {
    int out(int i);

    int process(int pid, int what);

    int register(int pid, int register, int i);

    int message(int pid, int k, int i);

    int total(int what);

    static Answers of(ProcessMill mill) {
        return new OfMill(mill);
    }

    record OfMill(ProcessMill mill) implements Answers {
        @Override
        public int out(int i) {
            return mill.out(i);
        }

        @Override
        public int process(int pid, int what) {
            return mill.process(pid, what);
        }

        @Override
        public int register(int pid, int register, int i) {
            return mill.register(pid, register, i);
        }

        @Override
        public int message(int pid, int k, int i) {
            return mill.message(pid, k, i);
        }

        @Override
        public int total(int what) {
            return mill.total(what);
        }
    }
}
