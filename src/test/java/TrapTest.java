/** Promise 12: interrupts and stalls. */
public final class TrapTest {
    public static void main(String[] args) {
        interrupts();
        stalls();
        Check.end();
    }

    /** Bits: 1 IE, 2 mode U, then two bits of ENABLE and two of PENDING. */
    private static void interrupts() {
        for (int bits = 0; bits < 64; bits++) {
            boolean on = (bits & 1) != 0;
            boolean user = (bits & 2) != 0;
            int enable = bits >> 2 & 3;
            int pending = bits >> 4 & 3;
            TwinHost x = new TwinHost(16);
            x.command(0, 0, on ? 1 : 0);
            x.command(0, 1, 80);
            x.command(0, 4, 5);
            x.command(0, 7, enable);
            x.command(0, 9, (pending & 1) != 0 ? 0 : 1);
            x.input(0, (pending & 2) != 0 ? 0 : 1, 6);
            x.place(0, 500, user);
            Check.due("run", x.run(1), 0);
            int due = enable & pending;
            boolean comes = due != 0 && (on || user);
            Check.due("CAUSE of " + bits, x.control(0, 3), !comes ? 1 : Lab.MIN + ((due & 2) != 0 ? 9 : 5));
            Check.due("TVAL of " + bits, x.control(0, 4), comes ? 0 : 500);
            Check.due("EPC of " + bits, x.control(0, 2), 500);
            Check.due("PC of " + bits, x.pc(0), 80);
            Check.due("mode of " + bits, x.user(0), false);
            Check.due("STATUS of " + bits, x.control(0, 0), (on ? 2 : 0) | (user ? 0 : 4));
            Check.due("interrupts of " + bits, x.count(0, 6), comes ? 1 : 0);
            Check.due("faults of " + bits, x.count(0, 2), comes ? 0 : 1);
            Check.due("steps of " + bits, x.count(0, 8), 1);
            Check.due("INPUT of " + bits, x.control(0, 11), (pending & 2) != 0 ? 6 : 0);
        }
    }

    private static void stalls() {
        TwinHost x = new TwinHost(16);
        x.poke(0, 10, 24);
        x.place(0, 10, false);
        x.command(0, 7, 1);
        x.input(0, 0, 5);
        Check.due("PENDING, but not in ENABLE", x.run(1), 0);
        Check.due("PC", x.pc(0), 10);
        Check.due("COUNT", x.control(0, 10), 0);
        Check.due("CAUSE", x.control(0, 3), 0);
        Check.due("begun", x.count(0, 0), 1);
        Check.due("steps", x.count(0, 8), 1);
        Check.due("the other has the turn", x.turn(), 1);
        Check.due("a switch", x.count(0, 7), 1);
        x.run(16);
        x.command(0, 7, 2);
        Check.due("both: it retires", x.run(1), 1);
        Check.due("PC", x.pc(0), 11);
        Check.due("COUNT", x.control(0, 10), 1);
        Check.due("INPUT stays", x.control(0, 11), 5);
        Check.due("its turn goes on", x.turn(), 0);
    }
}
