/** Promises 12 and 14: accesses, walks and the shadow entries that they fill. */
public final class WalkTest {
    private static final int V = Lab.V;
    private static final int R = Lab.R;
    private static final int W = Lab.W;
    private static final int X = Lab.X;
    private static final int U = Lab.U;
    private static final int A = Lab.A;
    private static final int D = Lab.D;
    private static final int FETCH = Lab.FETCH;
    private static final int LOAD = Lab.LOAD;
    private static final int STORE = Lab.STORE;

    public static void main(String[] args) {
        for (int kind = 0; kind < 3; kind++) {
            for (int bits = 0; bits < 32; bits++) {
                for (int way = 0; way < 4; way++) {
                    leafBits(kind, bits, (way & 1) != 0, (way & 2) != 0);
                }
            }
        }
        whereThingsLie();
        reuse();
        ownLeaf();
        Check.end();
    }

    private static boolean allowed(int kind, int bits, boolean user, boolean sum) {
        boolean right = (bits & (kind == FETCH ? X : kind == LOAD ? R : W)) != 0;
        boolean forUser = (bits & U) != 0;
        return right && (user ? forUser : !forUser || sum && kind != FETCH);
    }

    private static void leafBits(int kind, int bits, boolean user, boolean sum) {
        boolean good = (bits & V) != 0 && (bits & (R | X)) != 0 && (bits & (R | W)) != W;
        boolean goes = good && allowed(kind, bits, user, sum);
        String what = "kind " + kind + " bits " + bits + (user ? " U" : " S") + (sum ? " SUM" : "");
        for (int more = 0; more < 4; more++) {
            int leaf = Lab.entry(bits | (more & 1) * A | (more & 2) / 2 * D, 4);
            TwinHost large = Lab.paged(user, sum);
            large.poke(0, 32, leaf);
            TwinHost small = Lab.paged(user, sum);
            small.poke(0, 32, Lab.entry(V, 3));
            small.poke(0, 49, Lab.entry(leaf & 255, 5));
            if (!goes) {
                if ((bits & (V | R | W | X)) != V) {
                    Lab.faults(large, kind, 21, Lab.PAGE_FAULT[kind], what + " large");
                }
                Lab.faults(small, kind, 21, Lab.PAGE_FAULT[kind], what + " small");
                continue;
            }
            goesTo(large, kind, 32, what + " large");
            goesTo(small, kind, 49, what + " small");
        }
    }

    /** The address 21 must reach word 85, and the leaf must get its bits. */
    private static void goesTo(TwinHost x, int kind, int leafAt, String what) {
        int leaf = x.peek(0, leafAt);
        int due = leaf | A | (kind == STORE ? D : 0);
        x.poke(0, 85, kind == FETCH ? 0 : 777 << 5);
        Check.due(what + " retires", Lab.access(x, kind, 21), 1);
        Check.due(what + " leaf", x.peek(0, leafAt), due);
        Check.due(what + " entry", x.shadow(0, 1), 5 + 8 * (leaf & 30) + ((due & D) != 0 ? 512 : 0));
        Check.due(what + " fills", x.count(0, 1), kind == FETCH ? 1 : 2);
        Check.due(what + " loaded", x.register(0, 3), kind == LOAD ? 777 << 5 : 0);
        Check.due(what + " word", x.peek(0, 85), kind == FETCH ? 0 : kind == LOAD ? 777 << 5 : Lab.DATA);
        Check.due(what + " traces", x.traced(0, leafAt >> 4) && x.traced(0, 2), true);
        Check.due(what + " traces no other", x.traced(0, 5) || x.traced(0, leafAt == 32 ? 3 : 4), false);
    }

    private static void whereThingsLie() {
        for (int v = 0; v < 16; v++) {
            TwinHost x = new TwinHost(16);
            for (int n = 0; n < 4; n++) {
                x.poke(0, 16 + n, Lab.entry(V, 2 + n));
                for (int m = 0; m < 4; m++) {
                    x.poke(0, 32 + 16 * n + m, Lab.entry(V | R | X, (n + m) % 8));
                }
            }
            x.command(0, 6, 129);
            x.poke(0, 127, 0);
            int page = (v / 4 + v % 4) % 8;
            x.place(0, v * 16 + 7, false);
            x.poke(0, page * 16 + 7, Check.op(9, 1, 0, 0, v + 1));
            Check.due("run at page " + v, x.run(1), 1);
            Check.due("what was fetched at page " + v, x.register(0, 1), v + 1 << 16);
            for (int other = 0; other < 16; other++) {
                Check.due("entry " + other, x.shadow(0, other), other == v ? page + 8 * 10 : -1);
            }
            for (int p = 0; p < 8; p++) {
                Check.due("traced " + p, x.traced(0, p), p == 1 || p == 2 + v / 4);
            }
        }
    }

    /** An entry serves until it is dropped, even if the walk would now say something else. */
    private static void reuse() {
        TwinHost x = Lab.paged(false, false);
        x.poke(0, 32, Lab.entry(V | R, 4));
        Lab.access(x, LOAD, 21);
        Check.due("fills", x.count(0, 1), 2);
        Lab.access(x, LOAD, 22);
        Lab.access(x, LOAD, 31);
        Check.due("no more fills", x.count(0, 1), 2);
        Lab.access(x, LOAD, 32);
        Check.due("the next page", x.count(0, 1), 3);
        x.poke(0, 32, Lab.entry(V | R, 0));
        x.poke(0, 5, 4711);
        Check.due("both are dropped", x.count(0, 4), 2);
        x.place(0, 240, false);
        Lab.access(x, LOAD, 5);
        Check.due("the new table counts", x.register(0, 3), 4711);
        Check.due("filled again", x.shadow(0, 0), 8 * R);
    }

    /** The access comes after its fill, so a load or a fetch of its own leaf finds A on there. */
    private static void ownLeaf() {
        TwinHost x = Lab.paged(false, false);
        x.poke(0, 32, Lab.entry(V, 3));
        x.poke(0, 50, Lab.entry(V | R | W, 3));
        Check.due("load of its own leaf", Lab.access(x, LOAD, 34), 1);
        Check.due("A is on", x.register(0, 3), Lab.entry(V | R | W | A, 3));
        Check.due("the entry stays", x.shadow(0, 2), 3 + 8 * 6);
        Check.due("store at its own leaf", Lab.access(x, STORE, 34), 1);
        Check.due("the word is what was stored", x.peek(0, 50), Lab.DATA);
        Check.due("the entry is dropped", x.shadow(0, 2), -1);
        Check.due("dropped", x.count(0, 4), 1);
        Check.due("a traced store", x.count(0, 3), 1);
        // As an instruction, the leaf 9 with A on is x1 = i << 16, and without A it would be x0 = i << 16.
        TwinHost y = Lab.paged(false, false);
        y.poke(0, 32, Lab.entry(V, 3));
        y.poke(0, 50, Lab.entry(V | X, 3) | 7 << 16);
        Check.due("fetch of its own leaf", Lab.access(y, FETCH, 34), 1);
        Check.due("A is on in what is done", y.register(0, 1), 7 << 16);
    }
}
