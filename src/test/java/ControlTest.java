/** Promises 6 and 7: command and control. */
public final class ControlTest {
    public static void main(String[] args) {
        keptBits();
        pending();
        tableFlushes();
        Check.end();
    }

    private static void keptBits() {
        int[] kept = {15, -1, -1, -1, -1, -1, 143, 3, 0, -1, 0, 0};
        int[] values = {0, -1, 0x55555555, 0xAAAAAAAA, Integer.MIN_VALUE, Integer.MAX_VALUE, 16, 128, 112, 4, 1};
        TwinHost x = new TwinHost(4);
        for (int k = 0; k < 12; k++) {
            boolean stored = k != 8 && k != 10 && k != 11;
            for (int v : values) {
                Check.due("command " + k + " " + v, x.command(1, k, v), stored);
                if (stored) {
                    Check.due("control " + k + " after " + v, x.control(1, k), v & kept[k]);
                }
            }
        }
        Check.due("mode stays", x.user(1), false);
        for (int k = 0; k < 12; k++) {
            Check.due("the other guest's control " + k, x.control(0, k), k == 9 ? 2147483647 : 0);
        }
    }

    private static void pending() {
        TwinHost x = new TwinHost(16);
        Check.due("PENDING", x.control(0, 8), 0);
        x.command(0, 9, 1);
        Check.due("COUNT under TIMER", x.control(0, 8), 0);
        x.command(0, 9, 0);
        Check.due("COUNT at TIMER", x.control(0, 8), 1);
        x.command(0, 9, -1);
        Check.due("COUNT over TIMER", x.control(0, 8), 1);
        x.command(0, 9, 3);
        x.input(0, 2, 71);
        x.input(0, 0, 72);
        int[] due = {0, 0, 2, 3};
        for (int count = 0; count < 4; count++) {
            Check.due("COUNT", x.control(0, 10), count);
            Check.due("PENDING at " + count, x.control(0, 8), due[count]);
            Check.due("INPUT at " + count, x.control(0, 11), count < 2 ? 0 : 71);
            Check.due("INPUT stays at " + count, x.control(0, 11), count < 2 ? 0 : 71);
            x.run(1);
        }
        Check.due("COUNT", x.control(0, 10), 4);
        Check.due("PENDING is each guest's own", x.control(1, 8), 0);
    }

    private static void tableFlushes() {
        TwinHost x = new TwinHost(16);
        x.poke(0, 32, 9);
        Check.due("TABLE", x.command(0, 6, 130), true);
        Check.due("a flush", x.count(0, 5), 1);
        x.run(1);
        Check.due("an entry", x.shadow(0, 0), 64);
        Check.due("STATUS", x.command(0, 0, 8), true);
        Check.due("VECTOR", x.command(0, 1, 8), true);
        Check.due("the entry stays", x.shadow(0, 0), 64);
        Check.due("TABLE, the same", x.command(0, 6, 130), true);
        Check.due("the entry is gone", x.shadow(0, 0), -1);
        Check.due("two flushes", x.count(0, 5), 2);
        Check.due("none dropped", x.count(0, 4), 0);
        Check.due("the other guest's flushes", x.count(1, 5), 0);
    }
}
