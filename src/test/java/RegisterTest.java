/** Promises 4, 5, 8, 9 and 10: registers, PC and mode from outside. */
public final class RegisterTest {
    private static final int[] NO_GUESTS = {-1, 2, Integer.MIN_VALUE, Integer.MAX_VALUE};

    public static void main(String[] args) {
        registers();
        refusedRegisters();
        places();
        Check.end();
    }

    private static void registers() {
        TwinHost x = new TwinHost(4);
        for (int k = 0; k < 8; k++) {
            Check.due("give " + k, x.give(1, k, -5 - k), true);
        }
        for (int k = 0; k < 8; k++) {
            Check.due("register " + k, x.register(1, k), k == 0 ? 0 : -5 - k);
            Check.due("the other guest's " + k, x.register(0, k), 0);
        }
        Check.due("give", x.give(1, 7, Integer.MIN_VALUE), true);
        Check.due("register", x.register(1, 7), Integer.MIN_VALUE);
    }

    private static void refusedRegisters() {
        TwinHost x = new TwinHost(4);
        x.give(0, 7, 3);
        x.give(1, 1, 4);
        String before = Check.state(x);
        int[] wrong = {-1, 8, 9, Integer.MIN_VALUE, Integer.MAX_VALUE};
        for (int k : wrong) {
            Check.due("give " + k, x.give(0, k, 77), false);
            Check.due("register " + k, x.register(0, k), 0);
        }
        for (int g : NO_GUESTS) {
            Check.due("give to guest " + g, x.give(g, 1, 77), false);
            Check.due("give x0 to guest " + g, x.give(g, 0, 77), false);
            Check.due("register of guest " + g, x.register(g, 1), 0);
        }
        Check.due("nothing has changed", before.equals(Check.state(x)), true);
    }

    private static void places() {
        TwinHost x = new TwinHost(4);
        int[] addresses = {0, 5, 127, 128, -1, Integer.MIN_VALUE, Integer.MAX_VALUE};
        for (int address : addresses) {
            Check.due("place in U", x.place(1, address, true), true);
            Check.due("pc", x.pc(1), address);
            Check.due("user", x.user(1), true);
            Check.due("place in S", x.place(1, address, false), true);
            Check.due("pc", x.pc(1), address);
            Check.due("user", x.user(1), false);
            Check.due("pc of the other", x.pc(0), 0);
            Check.due("user of the other", x.user(0), false);
        }
        x.place(0, 3, true);
        String before = Check.state(x);
        for (int g : NO_GUESTS) {
            Check.due("place of guest " + g, x.place(g, 9, true), false);
            Check.due("pc of guest " + g, x.pc(g), 0);
            Check.due("user of guest " + g, x.user(g), false);
        }
        Check.due("nothing has changed", before.equals(Check.state(x)), true);
    }
}
