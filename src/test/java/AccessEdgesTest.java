/** Accesses and walks, sentence by sentence: the ends of the addresses, and each way that a table can be wrong. */
public final class AccessEdgesTest {
    private static final int V = Lab.V;
    private static final int R = Lab.R;
    private static final int W = Lab.W;
    private static final int X = Lab.X;
    private static final int U = Lab.U;
    private static final int A = Lab.A;
    private static final int D = Lab.D;
    private static final int ALL = V | R | W | X;
    private static final int[] NOWHERE = {-1, Lab.MIN, Lab.MAX};

    public static void main(String[] args) {
        withoutTranslation();
        withTranslation();
        tableOutside();
        whereTheFirstWordLies();
        whereTheSecondWordLies();
        for (int kind = Lab.FETCH; kind <= Lab.STORE; kind++) {
            firstNotValid(kind);
            firstIsLargeLeaf(kind);
            firstIsPointer(kind);
            secondIsNoLeaf(kind);
            leafPageOutside(kind);
            notAllowedGoesBeforeOutside(kind);
            otherBitsMeanNothing(kind);
            faultingWalkLeavesTheLeaf(kind);
            bitsThatGoOn(kind);
        }
        rights();
        Check.end();
    }

    private static int outside(int kind) {
        return Lab.OUTSIDE[kind];
    }

    private static int pageFault(int kind) {
        return Lab.PAGE_FAULT[kind];
    }

    /** An access with translation off; answers how many instructions retired. */
    private static int plainAccess(TwinHost x, int kind, int v) {
        x.give(0, 1, v);
        x.give(0, 2, Lab.DATA);
        x.poke(0, 60, Check.op(kind == Lab.LOAD ? 10 : 11, 3, 1, 2, 0));
        x.place(0, kind == Lab.FETCH ? v : 60, false);
        return x.run(1);
    }

    private static void withoutTranslation() {
        Check.sentence("Translation off: v is a word of the memory, or if it is not 0 .. 127: OUTSIDE.");
        for (int kind = Lab.FETCH; kind <= Lab.STORE; kind++) {
            int[] words = {0, 127};
            for (int v : words) {
                TwinHost x = new TwinHost(16);
                x.poke(0, v, Check.op(0, 3, 0, 0, 44));
                Check.due("kind " + kind + " at " + v, plainAccess(x, kind, v), 1);
                int due = kind == Lab.FETCH ? 44 : kind == Lab.LOAD ? Check.op(0, 3, 0, 0, 44) : 0;
                Check.due("x3", x.register(0, 3), due);
                Check.due("word", x.peek(0, v), kind == Lab.STORE ? Lab.DATA : Check.op(0, 3, 0, 0, 44));
                Check.due("fills", x.count(0, 1), 0);
            }
            int[] none = {-1, 128, 255, 256, Lab.MIN, Lab.MAX};
            for (int v : none) {
                TwinHost x = new TwinHost(16);
                Check.due("kind " + kind + " at " + v, plainAccess(x, kind, v), 0);
                Check.due("CAUSE", x.control(0, 3), outside(kind));
                Check.due("TVAL", x.control(0, 4), v);
                Check.due("EPC", x.control(0, 2), kind == Lab.FETCH ? v : 60);
                Check.due("faults", x.count(0, 2), 1);
            }
        }
    }

    private static void withTranslation() {
        Check.sentence("Translation on: v is not 0 .. 255: PAGE FAULT; else it lies in the VIRTUAL PAGE v >> 4");
        for (int kind = Lab.FETCH; kind <= Lab.STORE; kind++) {
            for (int v : NOWHERE) {
                Lab.faults(Lab.paged(false, false), kind, v, pageFault(kind), "kind " + kind + " at " + v);
            }
            Lab.faults(Lab.paged(false, false), kind, 256, pageFault(kind), "kind " + kind + " at 256");
            int[] words = {0, 15, 16, 63, 64, 127, 128, 191};
            for (int v : words) {
                TwinHost x = Lab.paged(false, false);
                for (int n = 0; n < 3; n++) {
                    x.poke(0, 32 + n, Lab.entry(ALL, 4));
                }
                Check.due("kind " + kind + " at " + v, Lab.access(x, kind, v), 1);
                Check.due("entry", x.shadow(0, v >> 4), 4 + (v >> 4) % 4 + 8 * 14 + (kind == Lab.STORE ? 512 : 0));
            }
            TwinHost last = Lab.paged(false, false);
            last.poke(0, 35, Lab.entry(ALL, 4));
            Check.due("kind " + kind + " at 255", Lab.access(last, kind, 255), 1);
            Check.due("word 127", last.peek(0, 127), kind == Lab.STORE ? Lab.DATA : 0);
        }
    }

    private static void tableOutside() {
        Check.sentence("A WALK. The page number of TABLE is 8 or more: OUTSIDE.");
        for (int table = 0; table < 16; table++) {
            TwinHost x = new TwinHost(16);
            int code = table < 4 ? 4 : 0;
            x.poke(0, table % 8 * 16, Lab.entry(V | X, code));
            x.command(0, 6, 128 + table);
            Check.due("TABLE " + table, x.run(1), table < 8 ? 1 : 0);
            Check.due("CAUSE", x.control(0, 3), table < 8 ? 0 : 1);
            Check.due("fills", x.count(0, 1), table < 8 ? 1 : 0);
        }
        TwinHost both = new TwinHost(16);
        both.command(0, 6, 128 + 8);
        both.place(0, 256, false);
        both.run(1);
        Check.due("no page goes before no table", both.control(0, 3), 12);
    }

    private static void whereTheFirstWordLies() {
        Check.sentence("FIRST word: that of the page at v >> 6.");
        for (int first = 0; first < 4; first++) {
            int[] ends = {first * 64, first * 64 + 63};
            for (int v : ends) {
                TwinHost x = new TwinHost(16);
                x.poke(0, 112 + first, Lab.entry(V | X, 0));
                x.command(0, 6, 128 + 7);
                x.place(0, v, false);
                Check.due("fetch at " + v, x.run(1), 1);
                Check.due("A at its word", x.peek(0, 112 + first), Lab.entry(V | X | A, 0));
                Check.due("entry", x.shadow(0, v >> 4), (v >> 4) % 4 + 8 * 8);
            }
        }
    }

    private static void whereTheSecondWordLies() {
        Check.sentence("else the SECOND word, that of this page at v >> 4 & 3, is the LEAF");
        for (int v = 0; v < 192; v += 15) {
            TwinHost x = Lab.paged(false, false);
            int second = 96 + (v >> 4) % 4;
            x.poke(0, 32 + v / 64, Lab.entry(V, 6));
            x.poke(0, second, Lab.entry(V | R, 1));
            x.poke(0, 16 + v % 16, 4711 + v);
            Check.due("load at " + v, Lab.access(x, Lab.LOAD, v), 1);
            Check.due("x3", x.register(0, 3), 4711 + v);
            Check.due("A at its word", x.peek(0, second), Lab.entry(V | R | A, 1));
            Check.due("no A at the first", x.peek(0, 32 + v / 64), Lab.entry(V, 6));
        }
    }

    private static void first(int kind, int word, int cause) {
        TwinHost x = Lab.paged(false, false);
        x.poke(0, 32, word);
        String what = "kind " + kind + ", first word " + word;
        if (cause == 0) {
            Check.due(what, Lab.access(x, kind, 21), 1);
            return;
        }
        Lab.faults(x, kind, 21, cause, what);
        Check.due(what + ": entry", x.shadow(0, 1), -1);
        Check.due(what + ": stays", x.peek(0, 32), word);
    }

    private static void second(int kind, int word, int cause) {
        TwinHost x = Lab.paged(false, false);
        x.poke(0, 32, Lab.entry(V, 3));
        x.poke(0, 49, word);
        String what = "kind " + kind + ", second word " + word;
        if (cause == 0) {
            Check.due(what, Lab.access(x, kind, 21), 1);
            return;
        }
        Lab.faults(x, kind, 21, cause, what);
        Check.due(what + ": entry", x.shadow(0, 1), -1);
        Check.due(what + ": stays", x.peek(0, 49), word);
        Check.due(what + ": traced", x.traced(0, 3), false);
    }

    private static void firstNotValid(int kind) {
        Check.sentence("Not valid, or W without R: PAGE FAULT.");
        first(kind, 0, pageFault(kind));
        first(kind, -1 - V, pageFault(kind));
        first(kind, Lab.entry(R | W | X, 4), pageFault(kind));
        first(kind, Lab.entry(0, 8), pageFault(kind));
        first(kind, Lab.entry(V | W, 4), pageFault(kind));
        first(kind, Lab.entry(V | W, 8), pageFault(kind));
        first(kind, Lab.entry(V | W | X, 4), pageFault(kind));
        first(kind, Lab.entry(V | W | X, 8), pageFault(kind));
        first(kind, Lab.entry(ALL, 4), 0);
    }

    private static void firstIsLargeLeaf(int kind) {
        Check.sentence("If it has R or X it is the LEAF: if its page number is no multiple of 4: PAGE FAULT");
        for (int number = 0; number < 16; number++) {
            int cause = number % 4 != 0 ? pageFault(kind) : number >= 8 ? outside(kind) : 0;
            first(kind, Lab.entry(ALL, number), cause);
        }
        int need = kind == Lab.FETCH ? X : kind == Lab.LOAD ? R : R | W;
        first(kind, Lab.entry(V | need, 4), 0);
        for (int within = 0; within < 4; within++) {
            TwinHost x = Lab.paged(false, false);
            x.poke(0, 33, Lab.entry(ALL, 4));
            Check.due("kind " + kind, Lab.access(x, kind, 64 + within * 16), 1);
            Check.due("page + (v >> 4 & 3)", x.shadow(0, 4 + within) & 7, 4 + within);
        }
    }

    private static void firstIsPointer(int kind) {
        Check.sentence("If it has none of R, W, X: its page number is 8 or more: OUTSIDE");
        for (int number = 0; number < 16; number++) {
            TwinHost x = Lab.paged(false, false);
            x.poke(0, 32, Lab.entry(V, number));
            if (number < 8) {
                x.poke(0, number * 16 + 1, Lab.entry(ALL, 6));
                Check.due("pointer to " + number, Lab.access(x, kind, 21), 1);
                Check.due("entry", x.shadow(0, 1) & 7, 6);
                Check.due("traced " + number, x.traced(0, number), true);
            } else {
                Lab.faults(x, kind, 21, outside(kind), "pointer to " + number);
            }
        }
    }

    private static void secondIsNoLeaf(int kind) {
        Check.sentence("is the LEAF: not valid, W without R, or none of R and X: PAGE FAULT");
        second(kind, 0, pageFault(kind));
        second(kind, -1 - V, pageFault(kind));
        second(kind, Lab.entry(R | W | X, 4), pageFault(kind));
        second(kind, Lab.entry(V, 4), pageFault(kind));
        second(kind, Lab.entry(V | U | A | D, 4), pageFault(kind));
        second(kind, Lab.entry(V, 8), pageFault(kind));
        second(kind, Lab.entry(V | W, 4), pageFault(kind));
        second(kind, Lab.entry(V | W | X, 4), pageFault(kind));
        second(kind, Lab.entry(V | W | X, 8), pageFault(kind));
        int need = kind == Lab.FETCH ? X : kind == Lab.LOAD ? R : R | W;
        second(kind, Lab.entry(V | need, 5), 0);
    }

    private static void leafPageOutside(int kind) {
        Check.sentence("The page is 8 or more: OUTSIDE.");
        for (int number = 0; number < 16; number++) {
            second(kind, Lab.entry(ALL, number), number < 8 ? 0 : outside(kind));
        }
        first(kind, Lab.entry(ALL, 4), 0);
        first(kind, Lab.entry(ALL, 8), outside(kind));
        first(kind, Lab.entry(ALL, 12), outside(kind));
    }

    private static void notAllowedGoesBeforeOutside(int kind) {
        Check.sentence("Not allowed: PAGE FAULT. The page is 8 or more: OUTSIDE.");
        second(kind, Lab.entry(ALL | U, 8), pageFault(kind));
        first(kind, Lab.entry(ALL | U, 8), pageFault(kind));
        int others = kind == Lab.FETCH ? R | W : kind == Lab.LOAD ? X : R | X;
        second(kind, Lab.entry(V | others, 15), pageFault(kind));
        first(kind, Lab.entry(V | others, 12), pageFault(kind));
    }

    private static void otherBitsMeanNothing(int kind) {
        Check.sentence("Entries are words: 1 valid, 2 R, 4 W, 8 X, 16 U, 32 A, 64 D, and a page number >> 8 & 15.");
        int rest = ~(15 << 8 | 127);
        first(kind, Lab.entry(ALL, 4) | rest, 0);
        second(kind, Lab.entry(ALL, 5) | rest, 0);
        TwinHost x = Lab.paged(false, false);
        int pointer = Lab.entry(V | U | A | D, 3) | rest;
        x.poke(0, 32, pointer);
        x.poke(0, 49, Lab.entry(ALL, 5) | rest);
        Check.due("a pointer with other bits", Lab.access(x, kind, 21), 1);
        Check.due("stays as it was", x.peek(0, 32), pointer);
        int on = kind == Lab.STORE ? A | D : A;
        Check.due("and the leaf keeps its other bits", x.peek(0, 49), Lab.entry(ALL | on, 5) | rest);
        Check.due("entry", x.shadow(0, 1), 5 + 8 * 14 + (kind == Lab.STORE ? 512 : 0));
        TwinHost plain = Lab.paged(false, false);
        plain.poke(0, 32, Lab.entry(V, 3));
        plain.poke(0, 49, Lab.entry(ALL, 5));
        Check.due("a pointer without U, A and D", Lab.access(plain, kind, 21), 1);
        Check.due("stays as it was", plain.peek(0, 32), Lab.entry(V, 3));
    }

    private static void faultingWalkLeavesTheLeaf(int kind) {
        Check.sentence("Else A, and for a store D too, go on in the leaf in the memory");
        int others = kind == Lab.FETCH ? R | W : kind == Lab.LOAD ? X : R | X;
        second(kind, Lab.entry(V | others, 5), pageFault(kind));
        first(kind, Lab.entry(V | others, 4), pageFault(kind));
        second(kind, Lab.entry(ALL, 8), outside(kind));
        first(kind, Lab.entry(ALL, 8), outside(kind));
    }

    private static void bitsThatGoOn(int kind) {
        Check.sentence("Else A, and for a store D too, go on in the leaf in the memory");
        int[] before = {0, A, D, A | D};
        for (int bits : before) {
            TwinHost x = Lab.paged(false, false);
            x.poke(0, 32, Lab.entry(V, 3));
            x.poke(0, 49, Lab.entry(ALL | bits, 5));
            Check.due("kind " + kind, Lab.access(x, kind, 21), 1);
            int after = bits | A | (kind == Lab.STORE ? D : 0);
            Check.due("leaf with " + bits, x.peek(0, 49), Lab.entry(ALL | after, 5));
            Check.due("whether D is on in it", x.shadow(0, 1) & 512, (after & D) != 0 ? 512 : 0);
            Check.due("nothing is dropped", x.count(0, 4), 0);
            Check.due("nor a traced store", x.count(0, 3), 0);
        }
    }

    private static void rights() {
        Check.sentence("ALLOWED with a leaf if it has X for a fetch, R for a load, W for a store; and in mode U, if it has U;"
            + " in mode S, if it has no U, or SUM is on and it is no fetch");
        int[] leaves = {R, X, R | W, R | X, R | W | X};
        for (int kind = Lab.FETCH; kind <= Lab.STORE; kind++) {
            int need = kind == Lab.FETCH ? X : kind == Lab.LOAD ? R : W;
            for (int bits : leaves) {
                for (int way = 0; way < 8; way++) {
                    boolean leafU = (way & 1) != 0;
                    boolean user = (way & 2) != 0;
                    boolean sum = (way & 4) != 0;
                    TwinHost x = Lab.paged(user, sum);
                    x.poke(0, 32, Lab.entry(V | bits | (leafU ? U : 0), 4));
                    boolean mode = user ? leafU : !leafU || sum && kind != Lab.FETCH;
                    String what = "kind " + kind + " bits " + bits + " way " + way;
                    if ((bits & need) != 0 && mode) {
                        Check.due(what, Lab.access(x, kind, 21), 1);
                    } else {
                        Lab.faults(x, kind, 21, pageFault(kind), what);
                    }
                }
            }
        }
    }
}
