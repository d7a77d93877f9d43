/** Promises 2 and 3: poke and peek. */
public final class MemoryTest {
    public static void main(String[] args) {
        ordinary();
        dropsEntries();
        Check.end();
    }

    private static void ordinary() {
        TwinHost x = new TwinHost(4);
        int[] places = {0, 1, 15, 16, 63, 126, 127};
        for (int p : places) {
            Check.due("first poke", x.poke(0, p, 1000 + p), 0);
            Check.due("second poke", x.poke(0, p, -p), 1000 + p);
            Check.due("peek", x.peek(0, p), -p);
            Check.due("peek at the other guest", x.peek(1, p), 0);
            Check.due("poke at the other guest", x.poke(1, p, Integer.MIN_VALUE), 0);
            Check.due("peek after that", x.peek(0, p), -p);
            Check.due("peek there", x.peek(1, p), Integer.MIN_VALUE);
        }
        Check.due("a word between", x.peek(0, 64), 0);
    }

    /** Code on page 0 by a large leaf at word 32; page 5 is seen at 64 through words 33 and 48. */
    private static TwinHost translated() {
        TwinHost x = new TwinHost(16);
        x.poke(0, 32, 9);
        x.poke(0, 33, 1 + 3 * 256);
        x.poke(0, 48, 3 + 5 * 256);
        x.poke(0, 49, 3 + 6 * 256);
        x.poke(0, 0, Check.op(10, 1, 0, 0, 64));
        x.poke(0, 1, Check.op(10, 1, 0, 0, 80));
        x.command(0, 6, 130);
        Check.due("both loads", x.run(2), 2);
        Check.due("fills", x.count(0, 1), 3);
        return x;
    }

    private static void dropsEntries() {
        TwinHost x = translated();
        Check.due("poke of a neighbour", x.poke(0, 50, 1), 0);
        Check.due("poke of data", x.poke(0, 80, 1), 0);
        Check.due("poke at the other guest", x.poke(1, 48, 1), 0);
        Check.due("nothing dropped", x.count(0, 4), 0);
        Check.due("poke of a second word, as it was", x.poke(0, 48, 3 + 5 * 256 + 32), 3 + 5 * 256 + 32);
        Check.due("one dropped", x.count(0, 4), 1);
        Check.due("it is gone", x.shadow(0, 4), -1);
        Check.due("its neighbour is not", x.shadow(0, 5), 6 + 8 * 2);
        Check.due("no traced store", x.count(0, 3), 0);
        Check.due("still traced", x.traced(0, 3), true);

        TwinHost y = translated();
        Check.due("poke of a first word", y.poke(0, 33, 0), 1 + 3 * 256);
        Check.due("two dropped", y.count(0, 4), 2);
        Check.due("first gone", y.shadow(0, 4), -1);
        Check.due("second gone", y.shadow(0, 5), -1);
        Check.due("the code's entry stays", y.shadow(0, 0), 8 * 8);
        Check.due("page 3 is traced no more", y.traced(0, 3), false);
        Check.due("again: nothing to drop", y.poke(0, 33, 5), 0);
        Check.due("still two dropped", y.count(0, 4), 2);
        Check.due("no flush", y.count(0, 5), 1);
    }
}
