/** Promise 1: a new object. */
public final class NewObjectTest {
    public static void main(String[] args) {
        allIsEmpty();
        int[][] quanta = {{1, 1}, {2, 2}, {15, 15}, {16, 16}, {0, 4}, {17, 4}, {-1, 4}, {4, 4},
            {Integer.MIN_VALUE, 4}, {Integer.MAX_VALUE, 4}};
        for (int[] row : quanta) {
            quantumIs(row[0], row[1]);
        }
        Check.end();
    }

    private static void allIsEmpty() {
        TwinHost x = new TwinHost(4);
        Check.due("turn", x.turn(), 0);
        for (int g = 0; g < 2; g++) {
            Check.due("pc", x.pc(g), 0);
            Check.due("user", x.user(g), false);
            for (int p = 0; p < 128; p++) {
                Check.due("peek " + p, x.peek(g, p), 0);
            }
            for (int k = 0; k < 8; k++) {
                Check.due("register " + k, x.register(g, k), 0);
                Check.due("traced " + k, x.traced(g, k), false);
            }
            for (int k = 0; k < 12; k++) {
                Check.due("control " + k, x.control(g, k), k == 9 ? 2147483647 : 0);
            }
            for (int v = 0; v < 16; v++) {
                Check.due("shadow " + v, x.shadow(g, v), -1);
            }
            for (int kind = 0; kind < 9; kind++) {
                Check.due("count " + kind, x.count(g, kind), 0);
            }
        }
    }

    private static void quantumIs(int asked, int due) {
        TwinHost x = new TwinHost(asked);
        for (int done = 1; done < due; done++) {
            x.run(1);
            Check.due("quantum " + asked + ", turn after " + done, x.turn(), 0);
        }
        x.run(1);
        Check.due("quantum " + asked + ", turn after " + due, x.turn(), 1);
        for (int done = 1; done < due; done++) {
            x.run(1);
            Check.due("quantum " + asked + ", turn back after " + done, x.turn(), 1);
        }
        x.run(1);
        Check.due("quantum " + asked + ", turn back", x.turn(), 0);
    }
}
