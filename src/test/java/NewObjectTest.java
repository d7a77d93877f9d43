/** Promise 1: a new object. */
public final class NewObjectTest {
    public static void main(String[] args) {
        allIsEmpty();
        quanta();
        Check.end();
    }

    private static void allIsEmpty() {
        Check.sentence("memory, registers, PC and controls 0, but TIMER 2147483647; mode S; no inputs, no shadow entries");
        TwinHost x = new TwinHost(4);
        Check.due("turn", x.turn(), 0);
        for (int g = 0; g < 2; g++) {
            Check.due("pc", x.pc(g), 0);
            Check.due("user", x.user(g), false);
            for (int p = 0; p < 128; p++) {
                Check.due("peek " + p, x.peek(g, p), 0);
            }
            for (int k = 0; k < 8; k++) {
                Check.due("register " + k, x.register(g, k), 0);
                Check.due("traced " + k, x.traced(g, k), false);
            }
            for (int k = 0; k < 12; k++) {
                Check.due("control " + k, x.control(g, k), k == 9 ? 2147483647 : 0);
            }
            for (int v = 0; v < 16; v++) {
                Check.due("shadow " + v, x.shadow(g, v), -1);
            }
            for (int kind = 0; kind < 9; kind++) {
                Check.due("count " + kind, x.count(g, kind), 0);
            }
            for (int n = 0; n < 6; n++) {
                Check.due("no inputs, so there is room", x.input(g, 0, 1), true);
            }
        }
    }

    private static void quanta() {
        Check.sentence("QUANTUM is quantum if that is 1 .. 16, else 4.");
        int[] asked = {1, 2, 15, 16, 0, 17, -1, 4, Lab.MIN, Lab.MAX};
        int[] due = {1, 2, 15, 16, 4, 4, 4, 4, 4, 4};
        for (int n = 0; n < asked.length; n++) {
            TwinHost x = new TwinHost(asked[n]);
            for (int step = 1; step <= 3 * due[n]; step++) {
                Check.due("retires", x.run(1), 1);
                int rows = step / due[n];
                Check.due("quantum " + asked[n] + ", turn after " + step, x.turn(), rows % 2);
                Check.due("switches of guest 0", x.count(0, 7), (rows + 1) / 2);
                Check.due("switches of guest 1", x.count(1, 7), rows / 2);
            }
        }
    }
}
