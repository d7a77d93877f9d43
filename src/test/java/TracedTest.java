/** Promises 14, 15 and 16: traced pages, what a store there drops, flushes, and the counts. */
public final class TracedTest {
    public static void main(String[] args) {
        storesInTables();
        firstAndSecondInOnePage();
        everyPage();
        flushes();
        guestsAreApart();
        Check.end();
    }

    /**
     * The table is page 2. The addresses 0 .. 63 are the pages 0 .. 3 by a large leaf at word 32;
     * 64 .. 127 go through page 3: 64 is page 5 and 80 is page 6. The guest loads at 64 and at 80,
     * then stores x1 at the addresses that x2 .. x7 hold.
     */
    private static TwinHost tables() {
        TwinHost x = new TwinHost(16);
        x.poke(0, 32, 15);
        x.poke(0, 33, 1 + 3 * 256);
        x.poke(0, 48, 7 + 5 * 256);
        x.poke(0, 49, 3 + 6 * 256);
        x.poke(0, 0, Check.op(10, 0, 0, 0, 64));
        x.poke(0, 1, Check.op(10, 0, 0, 0, 80));
        for (int k = 2; k < 8; k++) {
            x.poke(0, k, Check.op(11, 0, k, 1, 0));
        }
        x.command(0, 6, 130);
        return x;
    }

    private static void counted(TwinHost x, int fills, int tracedStores, int dropped) {
        Check.due("fills", x.count(0, 1), fills);
        Check.due("traced stores", x.count(0, 3), tracedStores);
        Check.due("dropped", x.count(0, 4), dropped);
    }

    private static void storesInTables() {
        TwinHost x = tables();
        x.give(0, 2, 63);
        x.give(0, 3, 49);
        x.give(0, 4, 49);
        x.give(0, 5, 33);
        x.give(0, 6, 20);
        x.give(0, 7, 32);
        Check.due("loads", x.run(2), 2);
        counted(x, 3, 0, 0);
        Check.due("store in page 3, at no entry's word", x.run(1), 1);
        counted(x, 4, 1, 0);
        Check.due("store at a second word", x.run(1), 1);
        counted(x, 4, 2, 1);
        Check.due("entry 5 is gone", x.shadow(0, 5), -1);
        Check.due("entry 4 stays", x.shadow(0, 4), 5 + 8 * 6);
        Check.due("page 3 is traced", x.traced(0, 3), true);
        Check.due("the same again drops nothing", x.run(1), 1);
        counted(x, 4, 3, 1);
        Check.due("store at a first word", x.run(1), 1);
        counted(x, 5, 4, 2);
        Check.due("entry 4 is gone", x.shadow(0, 4), -1);
        Check.due("page 3 is traced no more", x.traced(0, 3), false);
        Check.due("page 2 is traced", x.traced(0, 2), true);
        Check.due("store in page 1, not traced", x.run(1), 1);
        counted(x, 6, 4, 2);
        Check.due("store at the large leaf", x.run(1), 1);
        counted(x, 6, 5, 6);
        for (int v = 0; v < 16; v++) {
            Check.due("no entry " + v, x.shadow(0, v), -1);
        }
        Check.due("nothing is traced", x.traced(0, 2), false);
        Check.due("steps", x.count(0, 8), 8);
        Check.due("flushes", x.count(0, 5), 1);
        Check.due("begun", x.count(0, 0), 0);
        Check.due("the next fetch faults", x.run(1), 0);
        Check.due("CAUSE", x.control(0, 3), 12);
        Check.due("faults", x.count(0, 2), 1);
    }

    /** Each page of the memory in turn holds the table; the code is in another one. */
    private static void everyPage() {
        for (int table = 0; table < 8; table++) {
            TwinHost x = new TwinHost(16);
            int code = table < 4 ? 4 : 0;
            x.poke(0, table * 16, 9 + code * 256);
            x.command(0, 6, 128 + table);
            Check.due("not traced yet", x.traced(0, table), false);
            Check.due("run with the table " + table, x.run(1), 1);
            for (int p = 0; p < 8; p++) {
                Check.due("traced " + p, x.traced(0, p), p == table);
            }
        }
    }

    /** A table that is its own second table: the words 32 and 33 are first and second of one entry. */
    private static void firstAndSecondInOnePage() {
        TwinHost x = new TwinHost(16);
        x.poke(0, 35, 9);
        x.poke(0, 3, Check.op(10, 1, 0, 0, 18));
        x.poke(0, 32, 1 + 2 * 256);
        x.poke(0, 33, 7 + 2 * 256);
        x.poke(0, 34, 0);
        x.poke(0, 51, 0);
        x.command(0, 6, 130);
        x.place(0, 195, false);
        Check.due("load through words 32 and 33", x.run(1), 1);
        Check.due("entry", x.shadow(0, 1), 2 + 8 * 6);
        Check.due("x1 is word 34", x.register(0, 1), 0);
        Check.due("only page 2 is traced", x.traced(0, 2) && !x.traced(0, 3), true);
        x.poke(0, 33, 0);
        Check.due("dropped once", x.count(0, 4), 1);
    }

    private static void flushes() {
        int[] words = {23, Check.op(19, 0, 1, 0, 6), Check.op(20, 0, 2, 0, 6), Check.op(21, 0, 2, 0, 6)};
        for (int w : words) {
            TwinHost x = tables();
            x.give(0, 1, 130);
            x.poke(0, 2, w);
            Check.due("loads, then a flush", x.run(3), 3);
            Check.due("flushes", x.count(0, 5), 2);
            Check.due("PC", x.pc(0), 3);
            Check.due("begun", x.count(0, 0), 1);
            counted(x, 3, 0, 0);
            for (int v = 0; v < 16; v++) {
                Check.due("no entry " + v, x.shadow(0, v), -1);
                Check.due("not traced", x.traced(0, v & 7), false);
            }
            Check.due("TABLE", x.control(0, 6), 130);
        }
        TwinHost y = tables();
        y.poke(0, 2, Check.op(20, 1, 0, 0, 6));
        Check.due("a read of TABLE", y.run(3), 3);
        Check.due("is no flush", y.count(0, 5), 1);
        Check.due("entries stay", y.shadow(0, 4), 5 + 8 * 6);
        Check.due("x1", y.register(0, 1), 130);
    }

    private static void guestsAreApart() {
        TwinHost x = tables();
        x.run(16);
        x.run(16);
        for (int kind = 0; kind < 9; kind++) {
            Check.due("count of guest 1 " + kind, x.count(1, kind), kind == 8 ? 16 : kind == 7 ? 1 : 0);
            Check.due("traced of guest 1", x.traced(1, kind), false);
            Check.due("shadow of guest 1", x.shadow(1, kind), -1);
        }
        Check.due("switches of guest 0", x.count(0, 7), 1);
    }
}
