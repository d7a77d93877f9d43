/** The instructions, sentence by sentence: sums that wrap, shifts, comparisons, controls, the two modes. */
public final class InstructionEdgesTest {
    private static final int MIN = Lab.MIN;
    private static final int MAX = Lab.MAX;

    public static void main(String[] args) {
        sumsWrap();
        addressesWrap();
        shiftsTakeFiveBits();
        comparisonsAreSigned();
        highImmediate();
        x0StaysZero();
        branchesAtTheirEdges();
        linksAndTargets();
        wayBack();
        waitsOrNot();
        noStoreWithFieldZero();
        controlsThatThereAreNot();
        storingToTableFlushes();
        userMode();
        opsThatThereAreNot();
        Check.end();
    }

    private static int result(int op, int a, int b, int i) {
        TwinHost x = Lab.one(Check.op(op, 3, 1, 2, i), a, b);
        x.give(0, 3, 33);
        Check.due("op " + op + " retires", x.run(1), 1);
        Check.due("op " + op + " PC", x.pc(0), 11);
        Check.due("op " + op + " x1", x.register(0, 1), a);
        Check.due("op " + op + " x2", x.register(0, 2), b);
        return x.register(0, 3);
    }

    private static void computes(int op, int a, int b, int due) {
        Check.due("op " + op + " of " + a + " and " + b, result(op, a, b, 5), due);
    }

    private static void sumsWrap() {
        Check.sentence("All sums wrap.");
        Check.due("MAX + 1", result(0, MAX, 0, 1), MIN);
        Check.due("MAX + 0", result(0, MAX, 0, 0), MAX);
        Check.due("MIN - 1", result(0, MIN, 0, -1), MAX);
        Check.due("MAX + 32767", result(0, MAX, 0, 32767), MIN + 32766);
        Check.due("MIN - 32768", result(0, MIN, 0, -32768), MAX - 32767);
        computes(1, MAX, 1, MIN);
        computes(1, MAX, MAX, -2);
        computes(1, MIN, MIN, 0);
        computes(1, MIN, -1, MAX);
        computes(1, MIN, MAX, -1);
        computes(2, MIN, 1, MAX);
        computes(2, MAX, -1, MIN);
        computes(2, 0, MIN, MIN);
        computes(2, MIN, MIN, 0);
        computes(2, -1, MIN, MAX);
    }

    private static void addressesWrap() {
        Check.sentence("10 xd = the word loaded from the address xa + i    11 xb is stored at the address xa + i");
        Lab.trapped(Lab.one(Check.op(10, 3, 1, 0, 1), MAX, 0), 5, MIN, "a load at MAX + 1");
        Lab.trapped(Lab.one(Check.op(11, 3, 1, 0, 1), MAX, 0), 7, MIN, "a store at MAX + 1");
        Lab.trapped(Lab.one(Check.op(10, 3, 1, 0, -1), MIN, 0), 5, MAX, "a load at MIN - 1");
        Lab.trapped(Lab.one(Check.op(11, 3, 1, 0, -1), MIN, 0), 7, MAX, "a store at MIN - 1");
        Lab.trapped(Lab.one(Check.op(10, 3, 1, 0, -128), 127, 0), 5, -1, "a load at 127 - 128");
        Lab.trapped(Lab.one(Check.op(11, 3, 1, 0, 1), 127, 0), 7, 128, "a store at 127 + 1");
        TwinHost load = Lab.one(Check.op(10, 3, 1, 0, 32767), -32767 + 127, 0);
        load.poke(0, 127, 55);
        Check.due("a load from below", load.run(1), 1);
        Check.due("x3", load.register(0, 3), 55);
        TwinHost store = Lab.one(Check.op(11, 3, 1, 2, -32768), 32768, 66);
        Check.due("a store from above", store.run(1), 1);
        Check.due("word 0", store.peek(0, 0), 66);
    }

    private static void shiftsTakeFiveBits() {
        Check.sentence("7 xa << xb    8 xa >> xb (both by the lowest five bits of xb)");
        int[] by = {0, 1, 31, 32, 33, 63, 64, -1, -32, -31, MIN, MIN + 1, MAX};
        for (int b : by) {
            int times = Math.floorMod(b, 32);
            int left = -5;
            int right = MIN + 12345;
            for (int n = 0; n < times; n++) {
                left *= 2;
                right = Math.floorDiv(right, 2);
            }
            computes(7, -5, b, left);
            computes(8, MIN + 12345, b, right);
        }
        computes(7, 1, 31, MIN);
        computes(7, 2, 31, 0);
        computes(7, MIN, 1, 0);
        computes(8, MIN, 31, -1);
        computes(8, MAX, 31, 0);
        computes(8, -1, 31, -1);
        computes(8, MAX, 30, 1);
    }

    private static void comparisonsAreSigned() {
        Check.sentence("6 xa < xb ? 1 : 0");
        int[] values = {MIN, MIN + 1, -1, 0, 1, MAX - 1, MAX};
        for (int m = 0; m < values.length; m++) {
            for (int n = 0; n < values.length; n++) {
                computes(6, values[m], values[n], m < n ? 1 : 0);
            }
        }
        Check.sentence("3 and    4 or    5 exclusive or");
        computes(3, MIN, -1, MIN);
        computes(3, MAX, MIN, 0);
        computes(4, MAX, MIN, -1);
        computes(4, 0, 0, 0);
        computes(5, -1, MAX, MIN);
        computes(5, MIN, MIN, 0);
    }

    private static void highImmediate() {
        Check.sentence("9 xd = i << 16");
        int[] values = {0, 1, -1, 32767, -32768};
        for (int i : values) {
            Check.due(i + " << 16", result(9, 7, 8, i), i * 65536);
        }
    }

    private static void x0StaysZero() {
        Check.sentence("registers x0 .. x7 (x0 is always 0)");
        for (int op = 0; op <= 21; op++) {
            if (op == 11 || op == 12 || op == 13 || op == 14 || op == 17 || op == 18) {
                continue;
            }
            TwinHost x = Lab.one(Check.op(op, 0, 1, 2, op == 10 ? 5 : 9), op == 10 ? 5 : 12, 5);
            x.command(0, 9, 77);
            Check.due("op " + op + " retires", x.run(1), 1);
            Check.due("x0 after op " + op, x.register(0, 0), 0);
        }
        TwinHost read = Lab.one(Check.op(1, 3, 0, 0, 0), 5, 5);
        read.give(0, 0, 9);
        read.run(1);
        Check.due("x0 + x0", read.register(0, 3), 0);
        TwinHost stored = Lab.one(Check.op(11, 0, 0, 0, 20), 5, 5);
        stored.poke(0, 20, 9);
        stored.run(1);
        Check.due("x0 stored", stored.peek(0, 20), 0);
    }

    private static void branches(int op, int a, int b, boolean taken) {
        int[] by = {0, 1, -1, 32767, -32768};
        for (int i : by) {
            TwinHost x = Lab.one(Check.op(op, 3, 1, 2, i), a, b);
            x.give(0, 3, 33);
            String what = "op " + op + " by " + i + " with " + a + " and " + b;
            Check.due(what, x.run(1), 1);
            Check.due(what + " PC", x.pc(0), taken ? 10 + i : 11);
            Check.due(what + " x3", x.register(0, 3), 33);
            Check.due(what + " COUNT", x.control(0, 10), 1);
        }
    }

    private static void branchesAtTheirEdges() {
        Check.sentence("12 if xa = xb, PC becomes PC + i    13 the same, if they differ    14 if xa < xb");
        int[] values = {MIN, -1, 0, 1, MAX};
        for (int m = 0; m < values.length; m++) {
            for (int n = 0; n < values.length; n++) {
                branches(12, values[m], values[n], m == n);
                branches(13, values[m], values[n], m != n);
                branches(14, values[m], values[n], m < n);
            }
        }
    }

    private static void linksAndTargets() {
        Check.sentence("15 xd = PC + 1 and PC becomes PC + i    16 xd = PC + 1 and PC becomes xa + i");
        int[][] rows = {{MAX, 1, MIN}, {MIN, -1, MAX}, {0, -1, -1}, {5, 0, 5}, {MAX, 0, MAX}};
        for (int[] row : rows) {
            TwinHost x = Lab.one(Check.op(16, 3, 1, 2, row[1]), row[0], 0);
            Check.due("retires", x.run(1), 1);
            Check.due("PC", x.pc(0), row[2]);
            Check.due("x3", x.register(0, 3), 11);
        }
        TwinHost x = new TwinHost(4);
        x.poke(0, 127, Check.op(15, 3, 0, 0, -127));
        x.place(0, 127, false);
        Check.due("a jump at the last word", x.run(1), 1);
        Check.due("PC", x.pc(0), 0);
        Check.due("x3", x.register(0, 3), 128);
    }

    private static void wayBack() {
        Check.sentence("22 IE becomes PIE, PIE goes on, the mode becomes S if PS is on, else U, PS goes off, PC becomes EPC");
        for (int status = 0; status < 16; status++) {
            TwinHost x = Lab.one(22, 0, 0);
            x.command(0, 0, status);
            x.command(0, 2, MAX);
            Check.due("retires", x.run(1), 1);
            Check.due("STATUS from " + status, x.control(0, 0), status & 8 | 2 | (status & 2) >> 1);
            Check.due("mode U from " + status, x.user(0), (status & 4) == 0);
            Check.due("PC", x.pc(0), MAX);
            Check.due("EPC", x.control(0, 2), MAX);
            Check.due("COUNT", x.control(0, 10), 1);
        }
    }

    private static void waitsOrNot() {
        Check.sentence("24 if no bit is both in ENABLE and PENDING, nothing is done and nothing retires (a STALL)");
        for (int bits = 0; bits < 16; bits++) {
            int enable = bits & 3;
            int pending = bits >> 2;
            TwinHost x = Lab.one(24, 0, 0);
            x.command(0, 7, enable);
            x.command(0, 9, (pending & 1) != 0 ? 0 : 1);
            x.input(0, (pending & 2) != 0 ? 0 : 1, 71);
            boolean goes = (enable & pending) != 0;
            String what = "ENABLE " + enable + " PENDING " + pending;
            Check.due(what, x.control(0, 8), pending);
            Check.due(what + " retires", x.run(1), goes ? 1 : 0);
            Check.due(what + " PC", x.pc(0), goes ? 11 : 10);
            Check.due(what + " COUNT", x.control(0, 10), goes ? 1 : 0);
            Check.due(what + " turn", x.turn(), goes ? 0 : 1);
            Check.due(what + " CAUSE", x.control(0, 3), 0);
            Check.due(what + " STATUS", x.control(0, 0), 0);
            Check.due(what + " row", x.control(0, 11), (pending & 2) != 0 || goes ? 71 : 0);
        }
    }

    private static void noStoreWithFieldZero() {
        Check.sentence("(20 and 21 with a = 0 do not store)");
        for (int op = 20; op <= 21; op++) {
            for (int k = 0; k < 12; k++) {
                TwinHost x = Lab.one(Check.op(op, 3, 0, 0, k), -1, 0);
                x.command(0, k, 3);
                x.input(0, 0, 71);
                int flushes = x.count(0, 5);
                int was = x.control(0, k);
                Check.due("op " + op + " of " + k, x.run(1), 1);
                Check.due("x3 from " + k, x.register(0, 3), was);
                Check.due("control " + k, x.control(0, k), k == 10 ? 1 : k == 11 ? 0 : was);
                Check.due("flushes", x.count(0, 5), flushes);
            }
            TwinHost zero = Lab.one(Check.op(op, 3, 1, 0, 6), 0, 0);
            zero.command(0, 6, 7);
            Check.due("with x1 = 0", zero.run(1), 1);
            Check.due("TABLE", zero.control(0, 6), 7);
            Check.due("a store of the same is a flush", zero.count(0, 5), 2);
            int w = Check.op(op, 3, 1, 0, 10);
            Lab.trapped(Lab.one(w, 0, 0), 2, w, "COUNT with x1 = 0");
        }
        TwinHost x = Lab.one(Check.op(19, 3, 0, 0, 5), 0, 0);
        x.command(0, 5, 55);
        Check.due("19 with a = 0", x.run(1), 1);
        Check.due("stores 0", x.control(0, 5), 0);
        Check.due("x3", x.register(0, 3), 55);
    }

    private static void controlsThatThereAreNot() {
        Check.sentence("Not for a control that there is not, nor to store to one that is not stored to: then TRAP with cause 2");
        int[] none = {-1, 12, 13, 16, 256, 32767, -32768};
        for (int op = 19; op <= 21; op++) {
            for (int k : none) {
                for (int a = 0; a < 2; a++) {
                    illegal(Check.op(op, 3, a, 0, k), false);
                }
            }
            int[] notStoredTo = {8, 10, 11};
            for (int k : notStoredTo) {
                illegal(Check.op(op, 3, 1, 0, k), false);
            }
            for (int k = 0; k < 10; k++) {
                if (k != 8) {
                    TwinHost x = Lab.one(Check.op(op, 3, 1, 0, k), 0, 0);
                    Check.due("op " + op + " of " + k, x.run(1), 1);
                }
            }
        }
        illegal(Check.op(19, 3, 0, 0, 8), false);
        illegal(Check.op(19, 3, 0, 0, 10), false);
        illegal(Check.op(19, 3, 0, 0, 11), false);
    }

    private static void illegal(int w, boolean user) {
        TwinHost x = Lab.one(w, 5, 6);
        x.input(0, 0, 71);
        x.give(0, 3, 33);
        x.place(0, 10, user);
        Lab.trapped(x, 2, w, "op " + (w & 31) + " of " + (w >> 16) + (user ? " in U" : " in S"));
        Check.due("x3", x.register(0, 3), 33);
        Check.due("nothing is read", x.control(0, 11), 71);
        Check.due("no flush", x.count(0, 5), 0);
        Check.due("the turn stays", x.turn(), 0);
    }

    private static void storingToTableFlushes() {
        Check.sentence("Storing to TABLE (whatever is stored) is a FLUSH.");
        int[] values = {0, 130, 128, 15, MIN, -1};
        for (int v : values) {
            for (int op = 19; op <= 21; op++) {
                TwinHost x = new TwinHost(16);
                x.poke(0, 32, 9);
                x.poke(0, 1, Check.op(op, 0, 1, 0, 6));
                x.give(0, 1, v);
                x.command(0, 6, 130);
                Check.due("one", x.run(1), 1);
                Check.due("an entry", x.shadow(0, 0), 64);
                Check.due("the store", x.run(1), 1);
                Check.due("op " + op + " of " + v, x.shadow(0, 0), -1);
                Check.due("flushes", x.count(0, 5), 2);
                Check.due("dropped", x.count(0, 4), 0);
            }
            TwinHost x = new TwinHost(16);
            x.command(0, 6, v);
            Check.due("a flush of nothing", x.count(0, 5), 1);
        }
    }

    private static void userMode() {
        Check.sentence("19 to 24 in mode U, and 25 to 31: TRAP with cause 2, TVAL w.");
        for (int op = 19; op <= 24; op++) {
            illegal(Check.op(op, 3, 1, 2, 5), true);
            illegal(Check.op(op, 3, 0, 0, 11), true);
            TwinHost x = Lab.one(Check.op(op, 3, 1, 2, 5), 0, 0);
            x.command(0, 2, 20);
            x.command(0, 7, 1);
            x.command(0, 9, 0);
            Check.due("op " + op + " in S", x.run(1), 1);
        }
        for (int op = 0; op <= 16; op++) {
            TwinHost x = Lab.one(Check.op(op, 3, 1, 2, 5), 40, 40);
            x.place(0, 10, true);
            Check.due("op " + op + " in U", x.run(1), 1);
            Check.due("still in U", x.user(0), true);
        }
        TwinHost call = Lab.one(17, 0, 0);
        call.place(0, 10, true);
        Lab.trapped(call, 8, 0, "op 17 in U");
        Lab.trapped(Lab.one(17, 0, 0), 9, 0, "op 17 in S");
        TwinHost stop = Lab.one(18, 0, 0);
        stop.place(0, 10, true);
        Lab.trapped(stop, 3, 0, "op 18 in U");
    }

    private static void opsThatThereAreNot() {
        Check.sentence("19 to 24 in mode U, and 25 to 31: TRAP with cause 2, TVAL w.");
        for (int op = 25; op <= 31; op++) {
            int[] immediates = {0, 5, 11, -1, 32767, -32768};
            for (int i : immediates) {
                illegal(Check.op(op, 3, 1, 2, i), false);
                illegal(Check.op(op, 3, 1, 2, i), true);
            }
        }
    }
}
