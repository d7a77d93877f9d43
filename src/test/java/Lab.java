/** The machines that several tests start from. */
final class Lab {
    static final int MIN = Integer.MIN_VALUE;
    static final int MAX = Integer.MAX_VALUE;
    static final int[] NO_GUESTS = {-1, 2, MIN, MAX};

    static final int V = 1;
    static final int R = 2;
    static final int W = 4;
    static final int X = 8;
    static final int U = 16;
    static final int A = 32;
    static final int D = 64;

    static final int FETCH = 0;
    static final int LOAD = 1;
    static final int STORE = 2;
    static final int[] OUTSIDE = {1, 5, 7};
    static final int[] PAGE_FAULT = {12, 13, 15};

    /** What access() stores; as an instruction it would do nothing. */
    static final int DATA = 12345 << 5;

    private Lab() { }

    /** One instruction at word 10 of guest 0, with x1 = a and x2 = b, and 90 for VECTOR. */
    static TwinHost one(int w, int a, int b) {
        TwinHost x = new TwinHost(16);
        x.poke(0, 10, w);
        x.place(0, 10, false);
        x.give(0, 1, a);
        x.give(0, 2, b);
        x.command(0, 1, 90);
        return x;
    }

    /** The next step must trap at word 10, as one() has laid it. */
    static void trapped(TwinHost x, int cause, int tval, String what) {
        boolean user = x.user(0);
        Check.due(what + " retires", x.run(1), 0);
        Check.due(what + " CAUSE", x.control(0, 3), cause);
        Check.due(what + " TVAL", x.control(0, 4), tval);
        Check.due(what + " EPC", x.control(0, 2), 10);
        Check.due(what + " PC", x.pc(0), 90);
        Check.due(what + " mode U", x.user(0), false);
        Check.due(what + " COUNT", x.control(0, 10), 0);
        Check.due(what + " PS", x.control(0, 0) & 4, user ? 0 : 4);
    }

    static int entry(int bits, int page) {
        return bits | page << 8;
    }

    /**
     * Translation is on and the table is page 2. Code is at the virtual page 15, which is page 7 of
     * the memory; the addresses 0 .. 191 are free for the trial.
     */
    static TwinHost paged(boolean user, boolean sum) {
        TwinHost x = new TwinHost(16);
        x.poke(0, 35, entry(V | X | (user ? U : 0), 4));
        x.command(0, 0, sum ? 8 : 0);
        x.command(0, 1, -1);
        x.command(0, 6, 130);
        x.place(0, 240, user);
        return x;
    }

    /** Lets guest 0 do an access at v, in the machine of paged(); answers how many instructions retired. */
    static int access(TwinHost x, int kind, int v) {
        x.give(0, 1, v);
        x.give(0, 2, DATA);
        x.poke(0, 112, Check.op(kind == LOAD ? 10 : 11, 3, 1, 2, 0));
        x.place(0, kind == FETCH ? v : 240, x.user(0));
        return x.run(1);
    }

    /** The access must trap, and nothing may come of its walk. */
    static void faults(TwinHost x, int kind, int v, int cause, String what) {
        int filled = x.count(0, 1);
        int faults = x.count(0, 2);
        int codeFill = kind != FETCH && x.shadow(0, 15) == -1 ? 1 : 0;
        boolean user = x.user(0);
        Check.due(what + " retires", access(x, kind, v), 0);
        Check.due(what + " CAUSE", x.control(0, 3), cause);
        Check.due(what + " TVAL", x.control(0, 4), v);
        Check.due(what + " EPC", x.control(0, 2), kind == FETCH ? v : 240);
        Check.due(what + " faults", x.count(0, 2), faults + 1);
        Check.due(what + " fills", x.count(0, 1), filled + codeFill);
        Check.due(what + " mode U", x.user(0), false);
        x.place(0, 240, user);
    }
}
