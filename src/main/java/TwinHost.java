/**
 * Two guests, each a whole small machine, that do steps in turns on one host. What a guest may not
 * do by itself is emulated, and its addresses go through shadow entries filled from its own tables.
 */
public final class TwinHost {
    private static final int GUESTS = 2;
    private static final int WORDS = 128;
    private static final int PAGES = 8;
    private static final int PAGE_SHIFT = 4;
    private static final int IN_PAGE = 15;
    private static final int VIRTUAL_PAGES = 16;
    private static final int VIRTUAL_WORDS = 256;
    private static final int REGISTERS = 8;
    private static final int MOST_QUANTUM = 16;
    private static final int USUAL_QUANTUM = 4;
    private static final int MOST_STEPS = 64;

    private final Guest[] guests;
    private final int quantum;
    private int holder;
    private int stepsInRow;

    public TwinHost(int quantum) {
        this.quantum = quantum >= 1 && quantum <= MOST_QUANTUM ? quantum : USUAL_QUANTUM;
        guests = new Guest[] {new Guest(), new Guest()};
    }

    public int poke(int g, int p, int w) {
        return isGuest(g) && isWord(p) ? guests[g].overwrite(p, w) : 0;
    }

    public int peek(int g, int p) {
        return isGuest(g) && isWord(p) ? guests[g].memory[p] : 0;
    }

    public boolean give(int g, int k, int v) {
        if (!isGuest(g) || !isRegister(k)) {
            return false;
        }
        guests[g].setRegister(k, v);
        return true;
    }

    public int register(int g, int k) {
        return isGuest(g) && isRegister(k) ? guests[g].registers[k] : 0;
    }

    public boolean command(int g, int k, int v) {
        if (!isGuest(g) || !Controls.isStoredTo(k)) {
            return false;
        }
        guests[g].storeControl(k, v);
        return true;
    }

    public int control(int g, int k) {
        return isGuest(g) && Controls.exists(k) ? guests[g].controls.look(k) : 0;
    }

    public boolean place(int g, int address, boolean user) {
        if (!isGuest(g)) {
            return false;
        }
        guests[g].pc = address;
        guests[g].inUser = user;
        return true;
    }

    public int pc(int g) {
        return isGuest(g) ? guests[g].pc : 0;
    }

    public boolean user(int g) {
        return isGuest(g) && guests[g].inUser;
    }

    public boolean input(int g, int time, int value) {
        return isGuest(g) && time >= 0 && guests[g].controls.inputs.append(time, value);
    }

    public int run(int n) {
        if (n < 1 || n > MOST_STEPS) {
            return -1;
        }
        int retired = 0;
        for (int done = 0; done < n; done++) {
            Outcome outcome = guests[holder].step();
            if (outcome == Outcome.RETIRED) {
                retired++;
            }
            passTurnAfter(outcome);
        }
        return retired;
    }

    public int turn() {
        return holder;
    }

    public int shadow(int g, int v) {
        return isGuest(g) && v >= 0 && v < VIRTUAL_PAGES ? guests[g].shadows.describe(v) : -1;
    }

    public boolean traced(int g, int p) {
        return isGuest(g) && p >= 0 && p < PAGES && guests[g].shadows.isTraced(p);
    }

    public int count(int g, int kind) {
        return isGuest(g) && kind >= 0 && kind < Counts.KINDS ? guests[g].counts[kind] : -1;
    }

    private void passTurnAfter(Outcome outcome) {
        stepsInRow++;
        if (stepsInRow < quantum && outcome != Outcome.STALLED) {
            return;
        }
        guests[holder].counts[Counts.SWITCHES]++;
        holder = 1 - holder;
        stepsInRow = 0;
    }

    private static boolean isGuest(int g) {
        return g >= 0 && g < GUESTS;
    }

    private static boolean isWord(int p) {
        return p >= 0 && p < WORDS;
    }

    private static boolean isRegister(int k) {
        return k >= 0 && k < REGISTERS;
    }

    /** How a step ended. */
    private enum Outcome { RETIRED, TRAPPED, STALLED }

    /** The kinds of access, each with the entry bit that it needs and the causes of its faults. */
    private enum Access {
        FETCH(Entry.X, 1, 12),
        LOAD(Entry.R, 5, 13),
        STORE(Entry.W, 7, 15);

        final int need;
        final int outside;
        final int pageFault;

        Access(int need, int outside, int pageFault) {
            this.need = need;
            this.outside = outside;
            this.pageFault = pageFault;
        }
    }

    /** The kinds of counts, by the document's numbers. */
    private static final class Counts {
        static final int SYSTEM = 0;
        static final int FILLS = 1;
        static final int FAULTS = 2;
        static final int TRACED_STORES = 3;
        static final int DROPPED = 4;
        static final int FLUSHES = 5;
        static final int INTERRUPTS = 6;
        static final int SWITCHES = 7;
        static final int STEPS = 8;
        static final int KINDS = 9;
    }

    /** The words of a guest's page tables. */
    private static final class Entry {
        static final int VALID = 1;
        static final int R = 2;
        static final int W = 4;
        static final int X = 8;
        static final int U = 16;
        static final int A = 32;
        static final int D = 64;

        static boolean isBroken(int word) {
            return (word & VALID) == 0 || (word & (R | W)) == W;
        }

        static boolean isLeaf(int word) {
            return (word & (R | X)) != 0;
        }

        static int pageNumber(int word) {
            return word >> 8 & 15;
        }

        static boolean allows(int bits, Access access, boolean inUser, boolean sum) {
            if ((bits & access.need) == 0) {
                return false;
            }
            boolean forUser = (bits & U) != 0;
            if (inUser) {
                return forUser;
            }
            return !forUser || sum && access != Access.FETCH;
        }
    }

    /** The inputs of a guest that wait, in the order in which they came. */
    private static final class Inputs {
        static final int MOST = 6;

        final int[] times = new int[MOST];
        final int[] values = new int[MOST];
        int size;

        boolean append(int time, int value) {
            if (size >= MOST) {
                return false;
            }
            times[size] = time;
            values[size] = value;
            size++;
            return true;
        }

        boolean isThere(int now) {
            return size > 0 && times[0] <= now;
        }

        void removeFirst() {
            if (size == 0) {
                return;
            }
            size--;
            for (int at = 0; at < size; at++) {
                times[at] = times[at + 1];
                values[at] = values[at + 1];
            }
        }
    }

    /** The controls of a guest; PENDING and INPUT are worked out from the others and the inputs. */
    private static final class Controls {
        static final int STATUS = 0;
        static final int VECTOR = 1;
        static final int EPC = 2;
        static final int CAUSE = 3;
        static final int TVAL = 4;
        static final int TABLE = 6;
        static final int ENABLE = 7;
        static final int PENDING = 8;
        static final int TIMER = 9;
        static final int COUNT = 10;
        static final int INPUT = 11;
        static final int ALL = 12;

        static final int IE = 1;
        static final int PIE = 2;
        static final int PS = 4;
        static final int SUM = 8;
        static final int TRANSLATION = 128;
        static final int TABLE_PAGE = 15;
        static final int TIMER_BIT = 1;
        static final int INPUT_BIT = 2;

        final int[] values = new int[ALL];
        final Inputs inputs = new Inputs();

        Controls() {
            values[TIMER] = 2147483647;
        }

        static boolean exists(int k) {
            return k >= 0 && k < ALL;
        }

        static boolean isStoredTo(int k) {
            return exists(k) && k != PENDING && k != COUNT && k != INPUT;
        }

        static int keptBits(int k) {
            switch (k) {
                case STATUS:
                    return IE | PIE | PS | SUM;
                case TABLE:
                    return TRANSLATION | TABLE_PAGE;
                case ENABLE:
                    return TIMER_BIT | INPUT_BIT;
                default:
                    return -1;
            }
        }

        int look(int k) {
            switch (k) {
                case PENDING:
                    return pendingBits();
                case INPUT:
                    return inputs.isThere(values[COUNT]) ? inputs.values[0] : 0;
                default:
                    return values[k];
            }
        }

        int take(int k) {
            int was = look(k);
            if (k == INPUT && inputs.isThere(values[COUNT])) {
                inputs.removeFirst();
            }
            return was;
        }

        void put(int k, int v) {
            values[k] = v & keptBits(k);
        }

        int pendingBits() {
            int timer = values[COUNT] >= values[TIMER] ? TIMER_BIT : 0;
            return inputs.isThere(values[COUNT]) ? timer | INPUT_BIT : timer;
        }

        int dueBits() {
            return values[ENABLE] & pendingBits();
        }

        boolean isOn(int statusBit) {
            return (values[STATUS] & statusBit) != 0;
        }

        boolean translates() {
            return (values[TABLE] & TRANSLATION) != 0;
        }

        void enterTrap(int cause, int tval, int pc, boolean fromUser) {
            values[CAUSE] = cause;
            values[TVAL] = tval;
            values[EPC] = pc;
            int previous = (isOn(IE) ? PIE : 0) | (fromUser ? 0 : PS);
            values[STATUS] = values[STATUS] & SUM | previous;
        }

        /** Answers whether the guest goes back to mode U. */
        boolean leaveTrap() {
            boolean toUser = !isOn(PS);
            int enabled = isOn(PIE) ? IE : 0;
            values[STATUS] = values[STATUS] & SUM | PIE | enabled;
            return toUser;
        }
    }

    /** The shadow entries of a guest, one or none for each virtual page. */
    private static final class Shadows {
        static final int NONE = -1;

        final int[] pages = new int[VIRTUAL_PAGES];
        final int[] bits = new int[VIRTUAL_PAGES];
        final int[] firsts = new int[VIRTUAL_PAGES];
        final int[] seconds = new int[VIRTUAL_PAGES];

        Shadows() {
            clear();
        }

        void clear() {
            for (int v = 0; v < VIRTUAL_PAGES; v++) {
                pages[v] = NONE;
            }
        }

        void put(int v, int leaf, Walk walk) {
            pages[v] = walk.page;
            bits[v] = leaf & (Entry.R | Entry.W | Entry.X | Entry.U | Entry.D);
            firsts[v] = walk.first;
            seconds[v] = walk.second;
        }

        boolean letsThrough(int v, Access access, boolean inUser, boolean sum) {
            if (pages[v] == NONE || !Entry.allows(bits[v], access, inUser, sum)) {
                return false;
            }
            // A store must walk while D is off, for only a walk puts D on in the guest's own table.
            return access != Access.STORE || (bits[v] & Entry.D) != 0;
        }

        boolean isTraced(int page) {
            for (int v = 0; v < VIRTUAL_PAGES; v++) {
                if (pages[v] != NONE && (isIn(firsts[v], page) || isIn(seconds[v], page))) {
                    return true;
                }
            }
            return false;
        }

        /** Answers how many entries were dropped. */
        int dropThoseOf(int word) {
            int dropped = 0;
            for (int v = 0; v < VIRTUAL_PAGES; v++) {
                if (pages[v] != NONE && (firsts[v] == word || seconds[v] == word)) {
                    pages[v] = NONE;
                    dropped++;
                }
            }
            return dropped;
        }

        int describe(int v) {
            if (pages[v] == NONE) {
                return -1;
            }
            int rights = bits[v] & ~Entry.D;
            return pages[v] + 8 * rights + ((bits[v] & Entry.D) != 0 ? 512 : 0);
        }

        static boolean isIn(int word, int page) {
            return word != NONE && word >> PAGE_SHIFT == page;
        }
    }

    /** The way of one walk down a guest's tables; one object serves all walks of the guest. */
    private static final class Walk {
        int first;
        int second;
        int leafAt;
        int page;

        /** Answers the cause of the fault that stops the search, or 0 if it ends at a leaf. */
        int search(int[] memory, int table, int v, Access access) {
            if (table >= PAGES) {
                return access.outside;
            }
            first = (table << PAGE_SHIFT) + (v >> 6);
            second = Shadows.NONE;
            leafAt = first;
            int word = memory[first];
            if (Entry.isBroken(word)) {
                return access.pageFault;
            }
            int number = Entry.pageNumber(word);
            int within = v >> PAGE_SHIFT & 3;
            if (Entry.isLeaf(word)) {
                page = number + within;
                return number % 4 == 0 ? 0 : access.pageFault;
            }
            if (number >= PAGES) {
                return access.outside;
            }
            second = (number << PAGE_SHIFT) + within;
            leafAt = second;
            int below = memory[second];
            page = Entry.pageNumber(below);
            return Entry.isBroken(below) || !Entry.isLeaf(below) ? access.pageFault : 0;
        }
    }

    /** One guest: a whole machine. */
    private static final class Guest {
        static final int FIRST_SYSTEM_OP = 17;
        static final int LAST_OP = 24;
        static final int ILLEGAL = 2;
        static final int BREAKPOINT = 3;
        static final int CALL_FROM_USER = 8;
        static final int CALL_FROM_SUPERVISOR = 9;
        static final int TIMER_INTERRUPT = -2147483648 + 5;
        static final int INPUT_INTERRUPT = -2147483648 + 9;

        final int[] memory = new int[WORDS];
        final int[] registers = new int[REGISTERS];
        final int[] counts = new int[Counts.KINDS];
        final Controls controls = new Controls();
        final Shadows shadows = new Shadows();
        final Walk walk = new Walk();
        int pc;
        boolean inUser;

        Outcome step() {
            counts[Counts.STEPS]++;
            int due = controls.dueBits();
            if (due != 0 && (inUser || controls.isOn(Controls.IE))) {
                counts[Counts.INTERRUPTS]++;
                return trap((due & Controls.INPUT_BIT) != 0 ? INPUT_INTERRUPT : TIMER_INTERRUPT, 0);
            }
            int at = reach(pc, Access.FETCH);
            if (at < 0) {
                return fault(-at, pc);
            }
            int w = memory[at];
            return (w & 31) < FIRST_SYSTEM_OP ? doOrdinary(w) : doSystem(w);
        }

        Outcome doOrdinary(int w) {
            int d = w >> 5 & 7;
            int a = registers[w >> 8 & 7];
            int b = registers[w >> 11 & 7];
            int i = w >> 16;
            switch (w & 31) {
                case 10:
                    return load(d, a + i);
                case 11:
                    return store(a + i, b);
                case 12:
                    return retireAt(a == b ? pc + i : pc + 1);
                case 13:
                    return retireAt(a != b ? pc + i : pc + 1);
                case 14:
                    return retireAt(a < b ? pc + i : pc + 1);
                case 15:
                    return link(d, pc + i);
                case 16:
                    return link(d, a + i);
                default:
                    setRegister(d, compute(w & 31, a, b, i));
                    return retireAt(pc + 1);
            }
        }

        static int compute(int op, int a, int b, int i) {
            switch (op) {
                case 0:
                    return a + i;
                case 1:
                    return a + b;
                case 2:
                    return a - b;
                case 3:
                    return a & b;
                case 4:
                    return a | b;
                case 5:
                    return a ^ b;
                case 6:
                    return a < b ? 1 : 0;
                case 7:
                    return a << (b & 31);
                case 8:
                    return a >> (b & 31);
                default:
                    return i << 16;
            }
        }

        Outcome load(int d, int v) {
            int at = reach(v, Access.LOAD);
            if (at < 0) {
                return fault(-at, v);
            }
            setRegister(d, memory[at]);
            return retireAt(pc + 1);
        }

        Outcome store(int v, int w) {
            int at = reach(v, Access.STORE);
            if (at < 0) {
                return fault(-at, v);
            }
            if (shadows.isTraced(at >> PAGE_SHIFT)) {
                counts[Counts.TRACED_STORES]++;
            }
            overwrite(at, w);
            return retireAt(pc + 1);
        }

        Outcome link(int d, int target) {
            setRegister(d, pc + 1);
            return retireAt(target);
        }

        Outcome doSystem(int w) {
            counts[Counts.SYSTEM]++;
            int op = w & 31;
            if (op == 17) {
                return trap(inUser ? CALL_FROM_USER : CALL_FROM_SUPERVISOR, 0);
            }
            if (op == 18) {
                return trap(BREAKPOINT, 0);
            }
            if (inUser || op > LAST_OP) {
                return trap(ILLEGAL, w);
            }
            switch (op) {
                case 22:
                    inUser = controls.leaveTrap();
                    return retireAt(controls.values[Controls.EPC]);
                case 23:
                    flush();
                    return retireAt(pc + 1);
                case 24:
                    return controls.dueBits() == 0 ? Outcome.STALLED : retireAt(pc + 1);
                default:
                    return changeControl(w);
            }
        }

        Outcome changeControl(int w) {
            int op = w & 31;
            int a = w >> 8 & 7;
            int k = w >> 16;
            boolean stores = op == 19 || a != 0;
            if (!Controls.exists(k) || stores && !Controls.isStoredTo(k)) {
                return trap(ILLEGAL, w);
            }
            int given = registers[a];
            int was = controls.take(k);
            setRegister(w >> 5 & 7, was);
            if (stores) {
                storeControl(k, changed(op, was, given));
            }
            return retireAt(pc + 1);
        }

        static int changed(int op, int was, int given) {
            switch (op) {
                case 20:
                    return was | given;
                case 21:
                    return was & ~given;
                default:
                    return given;
            }
        }

        Outcome retireAt(int next) {
            controls.values[Controls.COUNT]++;
            pc = next;
            return Outcome.RETIRED;
        }

        Outcome fault(int cause, int v) {
            counts[Counts.FAULTS]++;
            return trap(cause, v);
        }

        Outcome trap(int cause, int tval) {
            controls.enterTrap(cause, tval, pc, inUser);
            inUser = false;
            pc = controls.values[Controls.VECTOR];
            return Outcome.TRAPPED;
        }

        /** Answers the word of the memory that an access is at, or the cause of its fault, negated. */
        int reach(int v, Access access) {
            if (!controls.translates()) {
                return isWord(v) ? v : -access.outside;
            }
            if (v < 0 || v >= VIRTUAL_WORDS) {
                return -access.pageFault;
            }
            int virtualPage = v >> PAGE_SHIFT;
            if (!shadows.letsThrough(virtualPage, access, inUser, controls.isOn(Controls.SUM))) {
                int table = controls.values[Controls.TABLE] & Controls.TABLE_PAGE;
                int cause = walk.search(memory, table, v, access);
                if (cause == 0) {
                    cause = fill(virtualPage, access);
                }
                if (cause != 0) {
                    return -cause;
                }
            }
            return (shadows.pages[virtualPage] << PAGE_SHIFT) + (v & IN_PAGE);
        }

        /** Answers the cause of the fault if the leaf does not serve the access, or 0. */
        int fill(int virtualPage, Access access) {
            int leaf = memory[walk.leafAt];
            if (!Entry.allows(leaf, access, inUser, controls.isOn(Controls.SUM))) {
                return access.pageFault;
            }
            if (walk.page >= PAGES) {
                return access.outside;
            }
            leaf |= access == Access.STORE ? Entry.A | Entry.D : Entry.A;
            // Not by overwrite(): what a walk puts on in a leaf drops no shadow entry.
            memory[walk.leafAt] = leaf;
            shadows.put(virtualPage, leaf, walk);
            counts[Counts.FILLS]++;
            return 0;
        }

        /** Answers the old word. */
        int overwrite(int at, int w) {
            int old = memory[at];
            memory[at] = w;
            counts[Counts.DROPPED] += shadows.dropThoseOf(at);
            return old;
        }

        void setRegister(int k, int v) {
            if (k != 0) {
                registers[k] = v;
            }
        }

        void storeControl(int k, int v) {
            controls.put(k, v);
            if (k == Controls.TABLE) {
                flush();
            }
        }

        void flush() {
            shadows.clear();
            counts[Counts.FLUSHES]++;
        }
    }
}
