/**
 * Processes that share nothing: small programs of words, terms that are copied, mailboxes, links,
 * watches, exits that spread, catching, names, times, and slices by turns.
 */
public final class ProcessMill {
    public static final int NONE = -1;

    private static final int WORDS = 300;
    private static final int WORD_PARTS = 4;
    private static final int OPERATIONS = 37;
    private static final int ATOMS = 100;
    private static final int REGISTERS = 8;
    private static final int PRIORITIES = 3;
    private static final int MOST_PROCESSES = 60;
    private static final int MOST_SLICES = 60;
    private static final int MOST_UNITS = 10000;
    private static final int SLICE_WORDS = 12;
    private static final int TURN_OF_THE_GREATEST = 8;
    private static final int REASON = 8;
    private static final int FACTS_OF_A_PROCESS = 11;
    private static final long NEVER = 0x7fffffffffffffffL;

    private static final int NORMAL = 0;
    private static final int KILL = 1;
    private static final int KILLED = 2;
    private static final int NOBODY = 3;
    private static final int BAD = 4;
    private static final int LIMIT = 5;
    private static final int EXIT = 6;
    private static final int DOWN = 7;

    /** What a word answers that does not fail; one that fails answers the atom of which it fails. */
    private static final int FINE = -1;

    private static final int READY = 0;
    private static final int WAITS = 1;
    private static final int DEAD = 2;

    private final int[] program = new int[WORDS * WORD_PARTS];
    private final Proc[] processes = new Proc[MOST_PROCESSES];
    private final Proc[] named = new Proc[ATOMS];
    private final Proc[] dying = new Proc[MOST_PROCESSES];
    private final Watches watches = new Watches();
    private final Sheet sheet = new Sheet();
    private final Term letter = new Term();
    private final Term cause = new Term();
    private int started = 0;
    private int deaths = 0;
    private int deathsSpread = 0;
    private int turns = 0;
    private int slices = 0;
    private int wordsDone = 0;
    private int time = 0;
    private int messagesCame = 0;

    public ProcessMill() {
    }

    public void word(int at, int operation, int a, int b, int c) throws IllegalArgumentException {
        if (!isBelow(at, WORDS) || !isBelow(operation, OPERATIONS)) {
            throw new IllegalArgumentException();
        }
        int k = at * WORD_PARTS;
        program[k] = operation;
        program[k + 1] = a;
        program[k + 2] = b;
        program[k + 3] = c;
    }

    public int start(int at, int priority) throws IllegalArgumentException, IllegalStateException {
        if (!isBelow(at, WORDS) || !isBelow(priority, PRIORITIES)) {
            throw new IllegalArgumentException();
        }
        if (started >= MOST_PROCESSES) {
            throw new IllegalStateException();
        }
        return beginProcess(at, priority).pid;
    }

    public boolean send(int pid, int number) throws IllegalArgumentException {
        Proc to = find(pid);
        if (to == null) {
            throw new IllegalArgumentException();
        }
        letter.setSingle(Term.NUMBER, number);
        return deliver(to, letter);
    }

    public int run(int n) throws IllegalArgumentException {
        if (!isBelow(n, MOST_SLICES + 1)) {
            throw new IllegalArgumentException();
        }
        for (int k = 0; k < n; k++) {
            Proc next = nextInTurn();
            if (next == null) {
                return k;
            }
            doSlice(next);
        }
        return n;
    }

    public int pass(int n) throws IllegalArgumentException {
        if (!isBelow(n, MOST_UNITS + 1)) {
            throw new IllegalArgumentException();
        }
        time += n;
        for (int k = 0; k < started; k++) {
            Proc late = firstDue();
            if (late == null) {
                return k;
            }
            late.box.pointToFirst();
            makeReady(late, late.atIfLate);
        }
        return started;
    }

    public int out(int i) {
        return sheet.numberAt(i);
    }

    public int process(int pid, int what) throws IllegalArgumentException {
        Proc asked = find(pid);
        if (asked == null || !isBelow(what, FACTS_OF_A_PROCESS)) {
            throw new IllegalArgumentException();
        }
        return asked.fact(what);
    }

    public int register(int pid, int register, int i) throws IllegalArgumentException {
        Proc asked = find(pid);
        if (asked == null || !isBelow(register, REASON + 1)) {
            throw new IllegalArgumentException();
        }
        if (register < REASON) {
            return asked.x(register).numberAt(i);
        }
        return asked.state == DEAD ? asked.reason.numberAt(i) : NONE;
    }

    public int message(int pid, int k, int i) throws IllegalArgumentException {
        Proc asked = find(pid);
        if (asked == null) {
            throw new IllegalArgumentException();
        }
        Term found = asked.box.rowAt(k);
        return found == null ? NONE : found.numberAt(i);
    }

    public int total(int what) throws IllegalArgumentException {
        switch (what) {
            case 0: return started;
            case 1: return started - deaths;
            case 2: return readyOnes();
            case 3: return slices;
            case 4: return wordsDone;
            case 5: return time;
            case 6: return sheet.printed;
            case 7: return watches.made;
            case 8: return messagesCame;
            default: throw new IllegalArgumentException();
        }
    }

    private static boolean isBelow(int number, int bound) {
        return number >= 0 && number < bound;
    }

    private static int place(int number) {
        return Math.floorMod(number, WORDS);
    }

    private Proc find(int pid) {
        return pid >= 1 && pid <= started ? processes[pid - 1] : null;
    }

    private Proc findByTerm(Term term) {
        return term.kind() == Term.PID ? find(term.value()) : null;
    }

    private int readyOnes() {
        int ready = 0;
        for (int k = 0; k < started; k++) {
            if (processes[k].state == READY) {
                ready++;
            }
        }
        return ready;
    }

    private Proc beginProcess(int at, int priority) {
        Proc fresh = new Proc(started + 1, priority);
        processes[started] = fresh;
        started++;
        makeReady(fresh, at);
        return fresh;
    }

    private void makeReady(Proc one, int at) {
        one.state = READY;
        one.at = at;
        one.deadline = NEVER;
        takeLastTurn(one);
    }

    private void takeLastTurn(Proc one) {
        one.turn = turns;
        turns++;
    }

    private Proc nextInTurn() {
        boolean greatest = (slices + 1) % TURN_OF_THE_GREATEST == 0;
        Proc first = null;
        for (int k = 0; k < started; k++) {
            Proc one = processes[k];
            if (one.state == READY && (first == null || one.comesBefore(first, greatest))) {
                first = one;
            }
        }
        return first;
    }

    /** The one that has waited too long and comes first by its time, then by its pid. */
    private Proc firstDue() {
        Proc first = null;
        for (int k = 0; k < started; k++) {
            Proc one = processes[k];
            boolean due = one.state == WAITS && one.deadline <= time;
            if (due && (first == null || one.deadline < first.deadline)) {
                first = one;
            }
        }
        return first;
    }

    private void doSlice(Proc one) {
        slices++;
        for (int k = 0; k < SLICE_WORDS && one.state == READY; k++) {
            int w = one.at * WORD_PARTS;
            one.at = place(one.at + 1);
            one.wordsDone++;
            wordsDone++;
            int failure = doWord(one, program[w], program[w + 1], program[w + 2], program[w + 3]);
            if (failure != FINE) {
                cause.setSingle(Term.ATOM, failure);
                fail(one, cause);
            }
            spreadDeaths();
        }
        if (one.state == READY) {
            takeLastTurn(one);
        }
    }

    private int doWord(Proc one, int operation, int a, int b, int c) {
        Term xa = one.x(a);
        Term xb = one.x(b);
        Term xc = one.x(c);
        switch (operation) {
            case 0: return end(one);
            case 1: return give(xa, Term.NUMBER, b);
            case 2: return give(xa, Term.ATOM, Math.floorMod(b, ATOMS));
            case 3: return giveCopy(xa, xb);
            case 4: return areNumbers(xb, xc) ? give(xa, Term.NUMBER, xb.value() + xc.value()) : BAD;
            case 5: return areNumbers(xb, xc) ? give(xa, Term.NUMBER, xb.value() - xc.value()) : BAD;
            case 6: return areNumbers(xb, xc) ? give(xa, Term.NUMBER, xb.value() * xc.value()) : BAD;
            case 7: return xa.setPair(xb, xc) ? FINE : LIMIT;
            case 8: return xa.setFirst(xb) ? FINE : BAD;
            case 9: return xa.setSecond(xb) ? FINE : BAD;
            case 10: return give(xa, Term.NUMBER, xb.kind());
            case 11: return goOn(one, a, true);
            case 12: return goOn(one, a, xb.compareWith(xc) == 0);
            case 13: return goOn(one, a, xb.compareWith(xc) < 0);
            case 14: return goOn(one, a, xb.compareWith(xc) <= 0);
            case 15: return callWord(one, place(a));
            case 16: return comeBack(one);
            case 17: return one.trail.addCatch(place(a)) ? FINE : LIMIT;
            case 18: return dropCatch(one);
            case 19: return fail(one, xa);
            case 20: return give(xa, Term.PID, one.pid);
            case 21: return beget(one, false, xa, place(b), xc);
            case 22: return beget(one, true, xa, place(b), xc);
            case 23: return post(xa, xb);
            case 24: return readMail(one, xb, a);
            case 25: return dropMail(one);
            case 26: return advance(one);
            case 27: return await(one, place(a));
            case 28: return awaitFor(one, place(a), xb, place(c));
            case 29: return link(one, findByTerm(xa));
            case 30: return unlink(one, findByTerm(xa));
            case 31: return watch(one, xa, findByTerm(xb));
            case 32: return exit(one, findByTerm(xa), xb);
            case 33: return trap(one, a != 0);
            case 34: return takeName(one, Math.floorMod(a, ATOMS));
            case 35: return lookUp(xa, findByName(Math.floorMod(b, ATOMS)));
            default: return print(xa);
        }
    }

    private static int give(Term target, int kind, int value) {
        target.setSingle(kind, value);
        return FINE;
    }

    private static int giveCopy(Term target, Term term) {
        target.copy(term);
        return FINE;
    }

    private static boolean areNumbers(Term one, Term other) {
        return one.kind() == Term.NUMBER && other.kind() == Term.NUMBER;
    }

    private static int goOn(Proc one, int number, boolean goes) {
        if (goes) {
            one.at = place(number);
        }
        return FINE;
    }

    private static int callWord(Proc one, int at) {
        if (!one.trail.addBack(one.at)) {
            return LIMIT;
        }
        one.at = at;
        return FINE;
    }

    private int comeBack(Proc one) {
        int back = one.trail.takeBack();
        if (back == NONE) {
            return end(one);
        }
        one.at = back;
        return FINE;
    }

    private int end(Proc one) {
        cause.setSingle(Term.ATOM, NORMAL);
        die(one, cause);
        return FINE;
    }

    private static int dropCatch(Proc one) {
        one.trail.dropCatch();
        return FINE;
    }

    private int fail(Proc one, Term term) {
        int caught = one.trail.takeCatch();
        if (caught == NONE) {
            die(one, term);
        } else {
            one.x(0).copy(term);
            one.at = caught;
        }
        return FINE;
    }

    private int beget(Proc parent, boolean linked, Term target, int at, Term gift) {
        if (started >= MOST_PROCESSES) {
            return LIMIT;
        }
        Proc child = beginProcess(at, parent.priority);
        child.x(0).setSingle(Term.PID, parent.pid);
        child.x(1).copy(gift);
        if (linked) {
            parent.linkWith(child);
        }
        target.setSingle(Term.PID, child.pid);
        return FINE;
    }

    private int post(Term address, Term term) {
        if (address.kind() != Term.PID && address.kind() != Term.ATOM) {
            return BAD;
        }
        Proc to = address.kind() == Term.ATOM ? findByName(address.value()) : findByTerm(address);
        if (to != null) {
            deliver(to, term);
        }
        return FINE;
    }

    private Proc findByName(int name) {
        return isBelow(name, ATOMS) ? named[name] : null;
    }

    private static int readMail(Proc one, Term target, int ifNone) {
        Term found = one.box.atPointer();
        if (found == null) {
            one.at = place(ifNone);
        } else {
            target.copy(found);
        }
        return FINE;
    }

    private static int dropMail(Proc one) {
        one.box.dropAtPointer();
        return FINE;
    }

    private static int advance(Proc one) {
        one.box.advance();
        return FINE;
    }

    private static int await(Proc one, int at) {
        if (one.box.atPointer() != null) {
            one.at = at;
        } else {
            one.beginToWait(at, at, NEVER);
        }
        return FINE;
    }

    /** The units are looked at only where it has to wait: with a message nothing is wanted of them. */
    private int awaitFor(Proc one, int at, Term units, int atIfLate) {
        if (one.box.atPointer() != null) {
            one.at = at;
            return FINE;
        }
        if (units.kind() != Term.NUMBER) {
            return BAD;
        }
        if (units.value() < 1) {
            one.box.pointToFirst();
            one.at = atIfLate;
        } else {
            one.beginToWait(at, atIfLate, (long) time + units.value());
        }
        return FINE;
    }

    private boolean deliver(Proc to, Term term) {
        if (to.state == DEAD) {
            return false;
        }
        Term row = to.box.newRow();
        if (row == null) {
            return false;
        }
        row.copy(term);
        messagesCame++;
        if (to.state == WAITS) {
            makeReady(to, to.atIfMail);
        }
        return true;
    }

    private int link(Proc one, Proc other) {
        if (other == null) {
            return BAD;
        }
        if (other.state == DEAD) {
            cause.setSingle(Term.ATOM, NOBODY);
            getExit(one, other.pid, cause, false);
        } else if (other != one) {
            one.linkWith(other);
        }
        return FINE;
    }

    private static int unlink(Proc one, Proc other) {
        if (other == null) {
            return BAD;
        }
        one.unlinkFrom(other);
        return FINE;
    }

    private int watch(Proc one, Term target, Proc other) {
        if (other == null) {
            return BAD;
        }
        if (watches.isFull()) {
            return LIMIT;
        }
        int number = watches.nextNumber();
        target.setSingle(Term.NUMBER, number);
        if (other.state == DEAD) {
            cause.setSingle(Term.ATOM, NOBODY);
            letter.setDown(number, other.pid, cause);
            deliver(one, letter);
        } else {
            watches.add(number, one.pid, other.pid);
        }
        return FINE;
    }

    private int exit(Proc one, Proc other, Term reason) {
        if (other == null) {
            return BAD;
        }
        getExit(other, one.pid, reason, true);
        return FINE;
    }

    private static int trap(Proc one, boolean traps) {
        one.traps = traps;
        return FINE;
    }

    private int takeName(Proc one, int name) {
        if (one.name != NONE || named[name] != null) {
            return BAD;
        }
        one.name = name;
        named[name] = one;
        return FINE;
    }

    private static int lookUp(Term target, Proc holder) {
        if (holder == null) {
            target.setSingle(Term.ATOM, NOBODY);
        } else {
            target.setSingle(Term.PID, holder.pid);
        }
        return FINE;
    }

    private int print(Term term) {
        sheet.print(term);
        return FINE;
    }

    private void getExit(Proc to, int from, Term reason, boolean byWord) {
        if (to.state == DEAD) {
            return;
        }
        if (byWord && reason.isAtom(KILL)) {
            cause.setSingle(Term.ATOM, KILLED);
            die(to, cause);
        } else if (to.traps) {
            letter.setExit(from, reason);
            deliver(to, letter);
        } else if (from == to.pid || !reason.isAtom(NORMAL)) {
            die(to, reason);
        }
    }

    /** What others get of a death waits for spreadDeaths, behind the deaths before it. */
    private void die(Proc one, Term reason) {
        if (one.state == DEAD || deaths >= MOST_PROCESSES) {
            return;
        }
        one.state = DEAD;
        one.reason.copy(reason);
        if (one.name != NONE) {
            named[one.name] = null;
            one.name = NONE;
        }
        one.box.clear();
        one.trail.clear();
        watches.dropMadeBy(one.pid);
        dying[deaths] = one;
        deaths++;
    }

    private void spreadDeaths() {
        for (int k = 0; k < MOST_PROCESSES && deathsSpread < deaths; k++) {
            Proc dead = dying[deathsSpread];
            deathsSpread++;
            tellLinked(dead);
            tellWatchers(dead);
        }
    }

    private void tellLinked(Proc dead) {
        for (int k = 0; k < started; k++) {
            Proc other = processes[k];
            if (dead.isLinkedWith(other)) {
                dead.unlinkFrom(other);
                getExit(other, dead.pid, dead.reason, false);
            }
        }
    }

    private void tellWatchers(Proc dead) {
        for (int k = 0; k < watches.count; k++) {
            Proc watcher = watches.watched[k] == dead.pid ? find(watches.watchers[k]) : null;
            if (watcher != null) {
                letter.setDown(watches.numbers[k], dead.pid, dead.reason);
                deliver(watcher, letter);
            }
        }
        watches.dropThoseOf(dead.pid);
    }

    /** A term, held as the row in which it is told, so that a copy is a copy of a row. */
    private static final class Term {
        static final int NUMBER = 0;
        static final int ATOM = 1;
        static final int PID = 2;
        static final int PAIR = 3;

        private static final int PAIR_TOLD = -1;
        /** 32 ends of two numbers each, and the 31 pairs that hold them. */
        private static final int LONGEST = 95;

        private final int[] row = new int[LONGEST];
        private int length = 2;

        int kind() {
            return kindOf(row[0]);
        }

        private static int kindOf(int told) {
            return told == PAIR_TOLD ? PAIR : told;
        }

        int value() {
            return row[1];
        }

        boolean isAtom(int atom) {
            return row[0] == ATOM && row[1] == atom;
        }

        int numberAt(int i) {
            return i >= 0 && i < length ? row[i] : NONE;
        }

        void setSingle(int kind, int value) {
            length = 0;
            addSingle(kind, value);
        }

        void copy(Term other) {
            System.arraycopy(other.row, 0, row, 0, other.length);
            length = other.length;
        }

        /** Whether there is room. The second goes first: then this may be one of both, or both. */
        boolean setPair(Term first, Term second) {
            int firsts = first.length;
            int seconds = second.length;
            if (1 + firsts + seconds > LONGEST) {
                return false;
            }
            System.arraycopy(second.row, 0, row, 1 + firsts, seconds);
            System.arraycopy(first.row, 0, row, 1, firsts);
            row[0] = PAIR_TOLD;
            length = 1 + firsts + seconds;
            return true;
        }

        boolean setFirst(Term pair) {
            return pair.kind() == PAIR && setPart(pair, 1, pair.endOfFirst());
        }

        boolean setSecond(Term pair) {
            return pair.kind() == PAIR && setPart(pair, pair.endOfFirst(), pair.length);
        }

        private boolean setPart(Term pair, int from, int to) {
            System.arraycopy(pair.row, from, row, 0, to - from);
            length = to - from;
            return true;
        }

        private int endOfFirst() {
            int k = 1;
            int open = 1;
            while (k < length && open > 0) {
                boolean pair = row[k] == PAIR_TOLD;
                open += pair ? 1 : -1;
                k += pair ? 1 : 2;
            }
            return k;
        }

        /** Rows that are alike so far have the same shape so far, so the first difference decides. */
        int compareWith(Term other) {
            int shared = Math.min(length, other.length);
            int k = 0;
            while (k + 1 < shared) {
                int kind = kindOf(row[k]);
                int otherKind = kindOf(other.row[k]);
                if (kind != otherKind) {
                    return kind < otherKind ? -1 : 1;
                }
                if (kind == PAIR) {
                    k++;
                } else if (row[k + 1] != other.row[k + 1]) {
                    return row[k + 1] < other.row[k + 1] ? -1 : 1;
                } else {
                    k += 2;
                }
            }
            return 0;
        }

        void setExit(int from, Term reason) {
            length = 0;
            addPairSign();
            addSingle(ATOM, EXIT);
            addPairSign();
            addSingle(PID, from);
            addReason(reason);
        }

        void setDown(int watch, int pid, Term reason) {
            length = 0;
            addPairSign();
            addSingle(ATOM, DOWN);
            addPairSign();
            addSingle(NUMBER, watch);
            addPairSign();
            addSingle(PID, pid);
            addReason(reason);
        }

        private void addPairSign() {
            row[length] = PAIR_TOLD;
            length++;
        }

        private void addSingle(int kind, int value) {
            row[length] = kind;
            row[length + 1] = value;
            length += 2;
        }

        private void addReason(Term reason) {
            if (length + reason.length > LONGEST) {
                addSingle(ATOM, LIMIT);
                return;
            }
            System.arraycopy(reason.row, 0, row, length, reason.length);
            length += reason.length;
        }
    }

    /** The messages of a process; rows of messages that are gone are used again. */
    private static final class Mailbox {
        private static final int MOST = 40;

        private final Term[] rows = new Term[MOST];
        private int count = 0;
        private int pointer = 0;

        Term rowAt(int k) {
            return k >= 0 && k < count ? rows[k] : null;
        }

        Term atPointer() {
            return rowAt(pointer);
        }

        /** The row for one message more, or null if there is no room. */
        Term newRow() {
            if (count >= MOST) {
                return null;
            }
            if (rows[count] == null) {
                rows[count] = new Term();
            }
            count++;
            return rows[count - 1];
        }

        void dropAtPointer() {
            if (pointer < count) {
                Term gone = rows[pointer];
                for (int k = pointer + 1; k < count; k++) {
                    rows[k - 1] = rows[k];
                }
                count--;
                rows[count] = gone;
            }
            pointer = 0;
        }

        void advance() {
            if (pointer < count) {
                pointer++;
            }
        }

        void pointToFirst() {
            pointer = 0;
        }

        void clear() {
            count = 0;
            pointer = 0;
        }
    }

    /** The words to come back to, and the words that catch. */
    private static final class Trail {
        private static final int MOST_BACKS = 16;
        private static final int MOST_CATCHES = 8;

        private final int[] backs = new int[MOST_BACKS];
        private final int[] catches = new int[MOST_CATCHES];
        private final int[] backsAtCatch = new int[MOST_CATCHES];
        private int backCount = 0;
        private int catchCount = 0;

        boolean addBack(int at) {
            if (backCount >= MOST_BACKS) {
                return false;
            }
            backs[backCount] = at;
            backCount++;
            return true;
        }

        int takeBack() {
            if (backCount <= 0) {
                return NONE;
            }
            backCount--;
            return backs[backCount];
        }

        boolean addCatch(int at) {
            if (catchCount >= MOST_CATCHES) {
                return false;
            }
            catches[catchCount] = at;
            backsAtCatch[catchCount] = backCount;
            catchCount++;
            return true;
        }

        void dropCatch() {
            if (catchCount > 0) {
                catchCount--;
            }
        }

        int takeCatch() {
            if (catchCount <= 0) {
                return NONE;
            }
            catchCount--;
            backCount = Math.min(backCount, backsAtCatch[catchCount]);
            return catches[catchCount];
        }

        void clear() {
            backCount = 0;
            catchCount = 0;
        }
    }

    /** The watches that go on, by their numbers. */
    private static final class Watches {
        private static final int MOST = 200;

        private final int[] numbers = new int[MOST];
        private final int[] watchers = new int[MOST];
        private final int[] watched = new int[MOST];
        private int count = 0;
        private int made = 0;

        boolean isFull() {
            return count >= MOST;
        }

        int nextNumber() {
            made++;
            return made;
        }

        void add(int number, int watcher, int pid) {
            if (isFull()) {
                return;
            }
            numbers[count] = number;
            watchers[count] = watcher;
            watched[count] = pid;
            count++;
        }

        void dropMadeBy(int watcher) {
            dropWhere(watchers, watcher);
        }

        void dropThoseOf(int pid) {
            dropWhere(watched, pid);
        }

        private void dropWhere(int[] column, int pid) {
            int kept = 0;
            for (int k = 0; k < count; k++) {
                if (column[k] != pid) {
                    numbers[kept] = numbers[k];
                    watchers[kept] = watchers[k];
                    watched[kept] = watched[k];
                    kept++;
                }
            }
            count = kept;
        }
    }

    /** What was printed: all of it is counted, the first of it is kept. */
    private static final class Sheet {
        private static final int MOST = 600;

        private final int[] kept = new int[MOST];
        private int printed = 0;

        void print(Term term) {
            for (int k = 0; k < term.length; k++) {
                if (printed < MOST) {
                    kept[printed] = term.row[k];
                }
                printed++;
            }
        }

        int numberAt(int i) {
            return i >= 0 && i < Math.min(printed, MOST) ? kept[i] : NONE;
        }
    }

    private static final class Proc {
        private final int pid;
        private final int priority;
        private final Term[] registers = new Term[REGISTERS];
        private final Term reason = new Term();
        private final Mailbox box = new Mailbox();
        private final Trail trail = new Trail();
        private int state = READY;
        private int at = 0;
        private int atIfMail = 0;
        private int atIfLate = 0;
        private long deadline = NEVER;
        private int turn = 0;
        private int name = NONE;
        private boolean traps = false;
        /** Bit p stands for a link with pid p. */
        private long links = 0;
        private int wordsDone = 0;

        Proc(int pid, int priority) {
            this.pid = pid;
            this.priority = priority;
            for (int k = 0; k < REGISTERS; k++) {
                registers[k] = new Term();
            }
        }

        Term x(int number) {
            return registers[Math.floorMod(number, REGISTERS)];
        }

        void beginToWait(int mailPlace, int latePlace, long until) {
            state = WAITS;
            atIfMail = mailPlace;
            atIfLate = latePlace;
            deadline = until;
        }

        boolean comesBefore(Proc other, boolean greatest) {
            if (priority != other.priority) {
                return greatest == (priority > other.priority);
            }
            return turn < other.turn;
        }

        boolean isLinkedWith(Proc other) {
            return (links & (1L << other.pid)) != 0;
        }

        void linkWith(Proc other) {
            links |= 1L << other.pid;
            other.links |= 1L << pid;
        }

        void unlinkFrom(Proc other) {
            links &= ~(1L << other.pid);
            other.links &= ~(1L << pid);
        }

        int fact(int what) {
            switch (what) {
                case 0: return state;
                case 1: return at;
                case 2: return priority;
                case 3: return name;
                case 4: return traps ? 1 : 0;
                case 5: return box.count;
                case 6: return box.pointer;
                case 7: return Long.bitCount(links);
                case 8: return trail.backCount;
                case 9: return trail.catchCount;
                default: return wordsDone;
            }
        }
    }
}
