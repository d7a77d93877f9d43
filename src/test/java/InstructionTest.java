/** Promise 12: run, one instruction at a time. */
public final class InstructionTest {
    private static final int MIN = Lab.MIN;
    private static final int MAX = Lab.MAX;

    public static void main(String[] args) {
        sums();
        jumps();
        loadsAndStores();
        controls();
        Check.end();
    }

    private static void computes(int op, int a, int b, int i, int due) {
        TwinHost x = Lab.one(Check.op(op, 3, 1, 2, i), a, b);
        String what = "op " + op + " of " + a + ", " + b + ", " + i;
        Check.due(what + " retired", x.run(1), 1);
        Check.due(what, x.register(0, 3), due);
        Check.due(what + " pc", x.pc(0), 11);
        Check.due(what + " COUNT", x.control(0, 10), 1);
        TwinHost y = Lab.one(Check.op(op, 0, 1, 2, i), a, b);
        y.run(1);
        Check.due(what + " into x0", y.register(0, 0), 0);
    }

    private static void sums() {
        computes(0, 5, 99, 7, 12);
        computes(0, 5, 99, -32768, -32763);
        computes(0, MAX, 99, 32767, MIN + 32766);
        computes(1, 5, 7, 3, 12);
        computes(1, MAX, 1, 3, MIN);
        computes(2, 5, 7, 3, -2);
        computes(2, MIN, 1, 3, MAX);
        computes(3, 12, 10, 3, 8);
        computes(3, -1, MIN, 3, MIN);
        computes(4, 12, 10, 3, 14);
        computes(5, 12, 10, 3, 6);
        computes(6, 5, 7, 3, 1);
        computes(6, 7, 7, 3, 0);
        computes(6, 8, 7, 3, 0);
        computes(6, MIN, MAX, 3, 1);
        computes(6, MAX, MIN, 3, 0);
        computes(7, 3, 4, 9, 48);
        computes(7, 3, 32, 9, 3);
        computes(7, 3, 33, 9, 6);
        computes(7, 1, -1, 9, MIN);
        computes(8, -8, 1, 9, -4);
        computes(8, MIN, 31, 9, -1);
        computes(8, MAX, 30, 9, 1);
        computes(8, 12, 34, 9, 3);
        computes(9, 5, 6, 1, 65536);
        computes(9, 5, 6, -1, -65536);
        computes(9, 5, 6, -32768, MIN);
    }

    private static void jumpsTo(int w, int a, int b, int pc, int link) {
        TwinHost x = Lab.one(w, a, b);
        Check.due("retired " + w, x.run(1), 1);
        Check.due("pc " + w, x.pc(0), pc);
        Check.due("x3 " + w, x.register(0, 3), link);
    }

    private static void jumps() {
        jumpsTo(Check.op(12, 3, 1, 2, 5), 7, 7, 15, 0);
        jumpsTo(Check.op(12, 3, 1, 2, 5), 7, 8, 11, 0);
        jumpsTo(Check.op(12, 3, 1, 2, -32768), 7, 7, -32758, 0);
        jumpsTo(Check.op(13, 3, 1, 2, -5), 7, 8, 5, 0);
        jumpsTo(Check.op(13, 3, 1, 2, -5), 7, 7, 11, 0);
        jumpsTo(Check.op(14, 3, 1, 2, 32767), -1, 0, 32777, 0);
        jumpsTo(Check.op(14, 3, 1, 2, 5), 0, 0, 11, 0);
        jumpsTo(Check.op(14, 3, 1, 2, 5), MAX, MIN, 11, 0);
        jumpsTo(Check.op(15, 3, 1, 2, -4), 7, 7, 6, 11);
        jumpsTo(Check.op(15, 0, 1, 2, 0), 7, 7, 10, 0);
        jumpsTo(Check.op(16, 3, 1, 2, 1), MAX, 7, MIN, 11);
        jumpsTo(Check.op(16, 0, 1, 2, -1), 50, 7, 49, 0);
        TwinHost x = Lab.one(Check.op(16, 1, 1, 0, 2), 50, 0);
        x.run(1);
        Check.due("x1 is read before it is written", x.pc(0), 52);
        Check.due("x1", x.register(0, 1), 11);
    }

    private static void loadsAndStores() {
        TwinHost x = Lab.one(Check.op(10, 3, 1, 0, -1), 128, 0);
        x.poke(0, 127, 33);
        Check.due("load", x.run(1), 1);
        Check.due("x3", x.register(0, 3), 33);
        TwinHost y = Lab.one(Check.op(11, 3, 1, 2, 27), 100, -6);
        y.poke(0, 127, 33);
        Check.due("store", y.run(1), 1);
        Check.due("word 127", y.peek(0, 127), -6);
        Check.due("x3", y.register(0, 3), 0);
        Check.due("the other guest's word", y.peek(1, 127), 0);
        TwinHost first = Lab.one(Check.op(11, 0, 1, 2, 0), 0, 35);
        first.poke(0, 11, Check.op(10, 3, 1, 0, 0));
        Check.due("store and load at word 0", first.run(2), 2);
        Check.due("word 0", first.peek(0, 0), 35);
        Check.due("x3", first.register(0, 3), 35);
        TwinHost z = Lab.one(Check.op(10, 0, 1, 0, 0), 127, 0);
        z.poke(0, 127, 33);
        Check.due("load to x0", z.run(1), 1);
        Check.due("x0", z.register(0, 0), 0);
        outside(Check.op(10, 3, 1, 0, 0), 128, 5);
        outside(Check.op(10, 3, 1, 0, 0), -1, 5);
        outside(Check.op(10, 0, 1, 0, 0), MIN, 5);
        outside(Check.op(11, 3, 1, 2, 0), 128, 7);
        outside(Check.op(11, 3, 1, 2, 0), MAX, 7);
    }

    private static void outside(int w, int v, int cause) {
        TwinHost x = Lab.one(w, v, 4);
        Lab.trapped(x, cause, v, "access at " + v);
        Check.due("x3", x.register(0, 3), 0);
        Check.due("faults", x.count(0, 2), 1);
    }

    private static void changes(int op, int k, int start, int given, int due) {
        String what = "op " + op + " of control " + k + " at " + start + " with " + given;
        TwinHost x = Lab.one(Check.op(op, 3, 1, 0, k), given, 0);
        x.command(0, k, start);
        int was = x.control(0, k);
        Check.due(what, x.run(1), 1);
        Check.due(what + " was", x.register(0, 3), was);
        Check.due(what + " is", x.control(0, k), due);
        Check.due(what + " PC", x.pc(0), 11);
    }

    private static void controls() {
        changes(19, 0, 2, -1, 15);
        changes(20, 0, 2, 20, 6);
        changes(21, 0, 15, 6, 9);
        changes(21, 5, -1, 6, -7);
        changes(20, 5, 9, 6, 15);
        changes(19, 6, 3, 0x7f, 15);
        changes(19, 7, 3, 4, 0);
        changes(20, 7, 1, -2, 3);
        changes(19, 9, 3, MIN, MIN);
        changes(21, 4, 3, 1, 2);
        changes(19, 2, 3, -9, -9);
        changes(19, 3, 3, -9, -9);
        changes(19, 1, 3, -9, -9);
        noStore();
    }

    private static void noStore() {
        for (int op = 20; op <= 21; op++) {
            TwinHost x = Lab.one(Check.op(op, 3, 0, 0, 10), 0, 0);
            x.poke(0, 11, Check.op(op, 4, 0, 0, 10));
            x.poke(0, 12, Check.op(op, 5, 0, 0, 8));
            x.poke(0, 13, Check.op(op, 6, 0, 0, 6));
            x.poke(0, 14, Check.op(op, 6, 7, 0, 6));
            x.poke(0, 15, Check.op(19, 6, 0, 0, 9));
            x.command(0, 9, 2);
            Check.due("reads of what is not stored to", x.run(3), 3);
            Check.due("COUNT before", x.register(0, 3), 0);
            Check.due("COUNT then", x.register(0, 4), 1);
            Check.due("PENDING", x.register(0, 5), 1);
            Check.due("TABLE read", x.run(1), 1);
            Check.due("no flush without a store", x.count(0, 5), 0);
            Check.due("TABLE stored to with x7 = 0", x.run(1), 1);
            Check.due("that is a flush", x.count(0, 5), 1);
            Check.due("19 with x0 stores", x.run(1), 1);
            Check.due("TIMER", x.control(0, 9), 0);
            Check.due("TIMER was", x.register(0, 6), 2);
        }
    }
}
