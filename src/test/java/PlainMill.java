import java.util.ArrayDeque;
import java.util.ArrayList;
import java.util.Arrays;
import java.util.Comparator;
import java.util.List;
import java.util.TreeSet;

/** The document written a second time, with the Java library and terms that never change, to compare with. */
final class PlainMill implements Answers {
    private static final int BAD = 4;
    private static final int LIMIT = 5;

    record Term(int kind, int value, Term first, Term second) implements Comparable<Term> {
        static Term number(int n) { return new Term(0, n, null, null); }
        static Term atom(int n) { return new Term(1, n, null, null); }
        static Term pid(int n) { return new Term(2, n, null, null); }
        static Term pair(Term x, Term y) { return new Term(3, 0, x, y); }

        int ends() {
            return kind == 3 ? first.ends() + second.ends() : 1;
        }

        void tell(List<Integer> row) {
            if (kind == 3) {
                row.add(-1);
                first.tell(row);
                second.tell(row);
            } else {
                row.add(kind);
                row.add(value);
            }
        }

        int told(int i) {
            List<Integer> row = new ArrayList<>();
            tell(row);
            return i >= 0 && i < row.size() ? row.get(i) : -1;
        }

        @Override
        public int compareTo(Term other) {
            if (kind != other.kind) {
                return Integer.compare(kind, other.kind);
            }
            if (kind != 3) {
                return Integer.compare(value, other.value);
            }
            int byFirst = first.compareTo(other.first);
            return byFirst != 0 ? byFirst : second.compareTo(other.second);
        }
    }

    /** A word fails by throwing this to the loop of the slice. */
    private static final class Failure extends RuntimeException {
        private static final long serialVersionUID = 1L;
        private final transient Term term;

        Failure(Term term) {
            this.term = term;
        }

        Failure(int atom) {
            this(Term.atom(atom));
        }
    }

    private record Catch(int at, int backs) { }

    private record Watch(int number, Proc watcher, Proc watched) { }

    private static final class Proc {
        int pid;
        int priority;
        int at;
        int name = -1;
        int pointer;
        int done;
        boolean traps;
        boolean waits;
        int mailAt;
        int lateAt;
        Long deadline;
        Term reason;
        final Term[] x = new Term[8];
        final List<Term> box = new ArrayList<>();
        final ArrayDeque<Integer> backs = new ArrayDeque<>();
        final ArrayDeque<Catch> catches = new ArrayDeque<>();
        final TreeSet<Integer> links = new TreeSet<>();

        boolean dead() {
            return reason != null;
        }
    }

    private final int[][] program = new int[300][5];
    private final List<Proc> all = new ArrayList<>();
    /** The ready ones, in the order in which they became ready. */
    private final List<Proc> ready = new ArrayList<>();
    private final List<Watch> watches = new ArrayList<>();
    private final List<Integer> printed = new ArrayList<>();
    private int slices;
    private int wordsDone;
    private int time;
    private int watchesMade;
    private int came;

    private static void require(boolean fine) {
        if (!fine) {
            throw new IllegalArgumentException();
        }
    }

    private Proc known(int pid) {
        require(pid >= 1 && pid <= all.size());
        return all.get(pid - 1);
    }

    void word(int at, int operation, int a, int b, int c) {
        require(at >= 0 && at < 300 && operation >= 0 && operation <= 36);
        program[at] = new int[] {operation, a, b, c};
    }

    int start(int at, int priority) {
        require(at >= 0 && at < 300 && priority >= 0 && priority <= 2);
        if (all.size() == 60) {
            throw new IllegalStateException();
        }
        return begin(at, priority).pid;
    }

    private Proc begin(int at, int priority) {
        Proc p = new Proc();
        all.add(p);
        p.pid = all.size();
        p.at = at;
        p.priority = priority;
        Arrays.fill(p.x, Term.number(0));
        ready.add(p);
        return p;
    }

    boolean send(int pid, int number) {
        return deliver(known(pid), Term.number(number));
    }

    private boolean deliver(Proc p, Term term) {
        if (p.dead() || p.box.size() == 40) {
            return false;
        }
        p.box.add(term);
        came++;
        if (p.waits) {
            wake(p, p.mailAt);
        }
        return true;
    }

    private void wake(Proc p, int at) {
        p.waits = false;
        p.deadline = null;
        p.at = at;
        ready.add(p);
    }

    int run(int n) {
        require(n >= 0 && n <= 60);
        int did = 0;
        while (did < n && !ready.isEmpty()) {
            slices++;
            did++;
            Comparator<Proc> order = Comparator.comparingInt(p -> slices % 8 == 0 ? -p.priority : p.priority);
            Proc p = ready.stream().min(order).get();
            for (int k = 0; k < 12 && !p.dead() && !p.waits; k++) {
                step(p);
            }
            ready.remove(p);
            if (!p.dead() && !p.waits) {
                ready.add(p);
            }
        }
        return did;
    }

    private void step(Proc p) {
        int[] w = program[p.at];
        p.at = (p.at + 1) % 300;
        p.done++;
        wordsDone++;
        try {
            if (w[0] < 20) {
                early(p, w[0], w[1], w[2], w[3]);
            } else {
                late(p, w[0], w[1], w[2], w[3]);
            }
        } catch (Failure failure) {
            fail(p, failure.term);
        }
    }

    private void fail(Proc p, Term term) {
        if (p.catches.isEmpty()) {
            die(p, term);
            return;
        }
        Catch latest = p.catches.pop();
        while (p.backs.size() > latest.backs) {
            p.backs.pop();
        }
        p.x[0] = term;
        p.at = latest.at;
    }

    private static int reg(int n) {
        return Math.floorMod(n, 8);
    }

    private static int place(int n) {
        return Math.floorMod(n, 300);
    }

    private static Term want(Term term, int kind) {
        if (term.kind != kind) {
            throw new Failure(BAD);
        }
        return term;
    }

    private void early(Proc p, int operation, int a, int b, int c) {
        Term xb = p.x[reg(b)];
        Term xc = p.x[reg(c)];
        int to = reg(a);
        switch (operation) {
            case 0 -> die(p, Term.atom(0));
            case 1 -> p.x[to] = Term.number(b);
            case 2 -> p.x[to] = Term.atom(Math.floorMod(b, 100));
            case 3 -> p.x[to] = xb;
            case 4 -> p.x[to] = Term.number(want(xb, 0).value + want(xc, 0).value);
            case 5 -> p.x[to] = Term.number(want(xb, 0).value - want(xc, 0).value);
            case 6 -> p.x[to] = Term.number(want(xb, 0).value * want(xc, 0).value);
            case 7 -> {
                failIf(xb.ends() + xc.ends() > 32, LIMIT);
                p.x[to] = Term.pair(xb, xc);
            }
            case 8 -> p.x[to] = want(xb, 3).first;
            case 9 -> p.x[to] = want(xb, 3).second;
            case 10 -> p.x[to] = Term.number(xb.kind);
            case 11 -> p.at = place(a);
            case 12 -> p.at = xb.equals(xc) ? place(a) : p.at;
            case 13 -> p.at = xb.compareTo(xc) < 0 ? place(a) : p.at;
            case 14 -> p.at = xb.compareTo(xc) > 0 ? p.at : place(a);
            case 15 -> {
                failIf(p.backs.size() == 16, LIMIT);
                p.backs.push(p.at);
                p.at = place(a);
            }
            case 16 -> {
                if (p.backs.isEmpty()) {
                    die(p, Term.atom(0));
                } else {
                    p.at = p.backs.pop();
                }
            }
            case 17 -> {
                failIf(p.catches.size() == 8, LIMIT);
                p.catches.push(new Catch(place(a), p.backs.size()));
            }
            case 18 -> p.catches.poll();
            default -> throw new Failure(p.x[to]);
        }
    }

    private static void failIf(boolean so, int atom) {
        if (so) {
            throw new Failure(atom);
        }
    }

    private void late(Proc p, int operation, int a, int b, int c) {
        Term xa = p.x[reg(a)];
        Term xb = p.x[reg(b)];
        boolean mail = p.pointer < p.box.size();
        switch (operation) {
            case 20 -> p.x[reg(a)] = Term.pid(p.pid);
            case 21, 22 -> beget(p, operation == 22, reg(a), place(b), p.x[reg(c)]);
            case 23 -> {
                failIf(xa.kind != 1 && xa.kind != 2, BAD);
                Proc to = xa.kind == 2 ? known(xa.value) : named(xa.value);
                if (to != null) {
                    deliver(to, xb);
                }
            }
            case 24 -> {
                if (mail) {
                    p.x[reg(b)] = p.box.get(p.pointer);
                } else {
                    p.at = place(a);
                }
            }
            case 25 -> {
                if (mail) {
                    p.box.remove(p.pointer);
                }
                p.pointer = 0;
            }
            case 26 -> p.pointer += mail ? 1 : 0;
            case 27 -> {
                if (mail) {
                    p.at = place(a);
                } else {
                    await(p, place(a), 0, null);
                }
            }
            case 28 -> {
                if (mail) {
                    p.at = place(a);
                } else if (want(xb, 0).value < 1) {
                    p.pointer = 0;
                    p.at = place(c);
                } else {
                    await(p, place(a), place(c), (long) time + xb.value);
                }
            }
            case 29 -> {
                Proc other = known(want(xa, 2).value);
                if (other.dead()) {
                    exit(p, other.pid, Term.atom(3), false);
                } else if (other != p) {
                    bind(p, other);
                }
            }
            case 30 -> {
                known(want(xa, 2).value).links.remove(p.pid);
                p.links.remove(xa.value);
            }
            case 31 -> watch(p, reg(a), known(want(xb, 2).value));
            case 32 -> exit(known(want(xa, 2).value), p.pid, xb, true);
            case 33 -> p.traps = a != 0;
            case 34 -> {
                int name = Math.floorMod(a, 100);
                failIf(p.name >= 0 || named(name) != null, BAD);
                p.name = name;
            }
            case 35 -> {
                Proc holder = named(Math.floorMod(b, 100));
                p.x[reg(a)] = holder == null ? Term.atom(3) : Term.pid(holder.pid);
            }
            default -> xa.tell(printed);
        }
    }

    private void await(Proc p, int mailAt, int lateAt, Long deadline) {
        p.waits = true;
        p.mailAt = mailAt;
        p.lateAt = lateAt;
        p.deadline = deadline;
        ready.remove(p);
    }

    private void beget(Proc p, boolean linked, int to, int at, Term gift) {
        failIf(all.size() == 60, LIMIT);
        Proc child = begin(at, p.priority);
        child.x[0] = Term.pid(p.pid);
        child.x[1] = gift;
        if (linked) {
            bind(p, child);
        }
        p.x[to] = Term.pid(child.pid);
    }

    private static void bind(Proc p, Proc other) {
        p.links.add(other.pid);
        other.links.add(p.pid);
    }

    private Proc named(int name) {
        return all.stream().filter(p -> p.name == name).findFirst().orElse(null);
    }

    private static Term down(int number, int pid, Term reason) {
        Term cut = reason.ends() + 3 > 32 ? Term.atom(LIMIT) : reason;
        return Term.pair(Term.atom(7), Term.pair(Term.number(number), Term.pair(Term.pid(pid), cut)));
    }

    private void watch(Proc p, int to, Proc other) {
        failIf(watches.size() == 200, LIMIT);
        watchesMade++;
        p.x[to] = Term.number(watchesMade);
        if (other.dead()) {
            deliver(p, down(watchesMade, other.pid, Term.atom(3)));
        } else {
            watches.add(new Watch(watchesMade, p, other));
        }
    }

    /** Those who have died but whose links and watches have not got theirs yet. */
    private final ArrayDeque<Proc> fresh = new ArrayDeque<>();

    private void exit(Proc p, int from, Term reason, boolean byWord) {
        receive(p, from, reason, byWord);
        spread();
    }

    private void die(Proc p, Term reason) {
        fall(p, reason);
        spread();
    }

    private void fall(Proc p, Term reason) {
        p.reason = reason;
        p.name = -1;
        p.waits = false;
        p.box.clear();
        p.pointer = 0;
        p.backs.clear();
        p.catches.clear();
        watches.removeIf(w -> w.watcher == p);
        ready.remove(p);
        fresh.add(p);
    }

    private void receive(Proc p, int from, Term reason, boolean byWord) {
        if (p.dead()) {
            return;
        }
        if (byWord && reason.equals(Term.atom(1))) {
            fall(p, Term.atom(2));
        } else if (p.traps) {
            Term cut = reason.ends() + 2 > 32 ? Term.atom(LIMIT) : reason;
            deliver(p, Term.pair(Term.atom(6), Term.pair(Term.pid(from), cut)));
        } else if (!reason.equals(Term.atom(0)) || from == p.pid) {
            fall(p, reason);
        }
    }

    private void spread() {
        while (!fresh.isEmpty()) {
            Proc dead = fresh.remove();
            for (int pid : new ArrayList<>(dead.links)) {
                dead.links.remove(pid);
                known(pid).links.remove(dead.pid);
                receive(known(pid), dead.pid, dead.reason, false);
            }
            for (Watch w : new ArrayList<>(watches)) {
                if (w.watched == dead) {
                    watches.remove(w);
                    deliver(w.watcher, down(w.number, dead.pid, dead.reason));
                }
            }
        }
    }

    int pass(int n) {
        require(n >= 0 && n <= 10000);
        int went = 0;
        for (int k = 0; k < n; k++) {
            time++;
            for (Proc p : all) {
                if (p.waits && p.deadline != null && p.deadline == time) {
                    p.pointer = 0;
                    wake(p, p.lateAt);
                    went++;
                }
            }
        }
        return went;
    }

    @Override
    public int out(int i) {
        return i >= 0 && i < 600 && i < printed.size() ? printed.get(i) : -1;
    }

    @Override
    public int process(int pid, int what) {
        Proc p = known(pid);
        return switch (what) {
            case 0 -> p.dead() ? 2 : p.waits ? 1 : 0;
            case 1 -> p.at;
            case 2 -> p.priority;
            case 3 -> p.name;
            case 4 -> p.traps ? 1 : 0;
            case 5 -> p.box.size();
            case 6 -> p.pointer;
            case 7 -> p.links.size();
            case 8 -> p.backs.size();
            case 9 -> p.catches.size();
            case 10 -> p.done;
            default -> throw new IllegalArgumentException();
        };
    }

    @Override
    public int register(int pid, int register, int i) {
        Proc p = known(pid);
        require(register >= 0 && register <= 8);
        Term term = register == 8 ? p.reason : p.x[register];
        return term == null ? -1 : term.told(i);
    }

    @Override
    public int message(int pid, int k, int i) {
        Proc p = known(pid);
        return k >= 0 && k < p.box.size() ? p.box.get(k).told(i) : -1;
    }

    @Override
    public int total(int what) {
        return switch (what) {
            case 0 -> all.size();
            case 1 -> (int) all.stream().filter(p -> !p.dead()).count();
            case 2 -> ready.size();
            case 3 -> slices;
            case 4 -> wordsDone;
            case 5 -> time;
            case 6 -> printed.size();
            case 7 -> watchesMade;
            case 8 -> came;
            default -> throw new IllegalArgumentException();
        };
    }
}
