/** Promises 6 and 7: command and control. */
public final class ControlTest {
    public static void main(String[] args) {
        eachGuestHasItsOwn();
        tableFlushes();
        Check.end();
    }

    private static void eachGuestHasItsOwn() {
        int[] storedTo = {0, 1, 2, 3, 4, 5, 6, 7, 9};
        for (int g = 0; g < 2; g++) {
            TwinHost x = new TwinHost(4);
            for (int k : storedTo) {
                Check.due("command " + k, x.command(g, k, 3), true);
                Check.due("command " + k + " again", x.command(g, k, k & 3), true);
            }
            for (int k : storedTo) {
                Check.due("control " + k, x.control(g, k), k & 3);
                Check.due("control " + k + " of the other", x.control(1 - g, k), k == 9 ? Lab.MAX : 0);
            }
            Check.due("the mode stays", x.user(g), false);
            Check.due("PC stays", x.pc(g), 0);
        }
    }

    private static void tableFlushes() {
        TwinHost x = new TwinHost(16);
        x.poke(0, 32, 9);
        Check.due("TABLE", x.command(0, 6, 130), true);
        Check.due("a flush", x.count(0, 5), 1);
        x.run(1);
        Check.due("an entry", x.shadow(0, 0), 64);
        Check.due("STATUS", x.command(0, 0, 8), true);
        Check.due("VECTOR", x.command(0, 1, 8), true);
        Check.due("the entry stays", x.shadow(0, 0), 64);
        Check.due("TABLE, the same", x.command(0, 6, 130), true);
        Check.due("the entry is gone", x.shadow(0, 0), -1);
        Check.due("two flushes", x.count(0, 5), 2);
        Check.due("none dropped", x.count(0, 4), 0);
        Check.due("the other guest's flushes", x.count(1, 5), 0);
    }
}
