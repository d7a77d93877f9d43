/** Promises 4, 5, 8, 9 and 10: registers, PC and mode from outside. */
public final class RegisterTest {
    public static void main(String[] args) {
        registers();
        places();
        Check.end();
    }

    private static void registers() {
        TwinHost x = new TwinHost(4);
        for (int k = 0; k < 8; k++) {
            Check.due("give " + k, x.give(1, k, -5 - k), true);
        }
        for (int k = 0; k < 8; k++) {
            Check.due("register " + k, x.register(1, k), k == 0 ? 0 : -5 - k);
            Check.due("the other guest's " + k, x.register(0, k), 0);
        }
        Check.due("give", x.give(1, 7, Integer.MIN_VALUE), true);
        Check.due("register", x.register(1, 7), Integer.MIN_VALUE);
    }

    private static void places() {
        TwinHost x = new TwinHost(4);
        int[] addresses = {0, 5, 127, 128, -1, Integer.MIN_VALUE, Integer.MAX_VALUE};
        for (int address : addresses) {
            Check.due("place in U", x.place(1, address, true), true);
            Check.due("pc", x.pc(1), address);
            Check.due("user", x.user(1), true);
            Check.due("place in S", x.place(1, address, false), true);
            Check.due("pc", x.pc(1), address);
            Check.due("user", x.user(1), false);
            Check.due("pc of the other", x.pc(0), 0);
            Check.due("user of the other", x.user(0), false);
        }
    }
}
