/** Promise 11: input, and how instructions take inputs. */
public final class InputTest {
    private static final int TAKE_X1 = Check.op(20, 1, 0, 0, 11);

    public static void main(String[] args) {
        takenInOrder();
        roomComesBack();
        lateFirstHidesTheNext();
        refusedReadTakesNothing();
        Check.end();
    }

    private static TwinHost takers() {
        TwinHost x = new TwinHost(16);
        for (int p = 0; p < 128; p++) {
            x.poke(0, p, TAKE_X1);
        }
        return x;
    }

    private static void takenInOrder() {
        TwinHost x = takers();
        int[] values = {30, -10, 20, 0, Integer.MIN_VALUE, 5};
        for (int value : values) {
            Check.due("input", x.input(0, 0, value), true);
        }
        for (int value : values) {
            Check.due("PENDING", x.control(0, 8), 2);
            Check.due("INPUT", x.control(0, 11), value);
            Check.due("run", x.run(1), 1);
            Check.due("x1", x.register(0, 1), value);
        }
        Check.due("PENDING", x.control(0, 8), 0);
        x.run(1);
        Check.due("x1 without an input", x.register(0, 1), 0);
    }

    private static void roomComesBack() {
        TwinHost x = takers();
        for (int n = 0; n < 6; n++) {
            x.input(0, 0, 40 + n);
        }
        Check.due("a seventh", x.input(0, 0, 50), false);
        x.run(1);
        Check.due("after one is taken", x.input(0, 0, 46), true);
        Check.due("one more", x.input(0, 0, 51), false);
        for (int n = 1; n < 7; n++) {
            x.run(1);
            Check.due("in order", x.register(0, 1), 40 + n);
        }
    }

    private static void lateFirstHidesTheNext() {
        TwinHost x = takers();
        x.input(0, 3, 61);
        x.input(0, 0, 62);
        x.input(0, 7, 63);
        x.input(0, 1, 64);
        int[] due = {0, 0, 0, 61, 62, 0, 0, 63, 64, 0};
        for (int n = 0; n < due.length; n++) {
            x.run(1);
            Check.due("x1 at COUNT " + n, x.register(0, 1), due[n]);
        }
    }

    private static void refusedReadTakesNothing() {
        TwinHost x = new TwinHost(16);
        x.poke(0, 0, Check.op(19, 1, 0, 0, 11));
        x.poke(0, 1, Check.op(20, 1, 2, 0, 11));
        x.poke(0, 2, Check.op(21, 1, 3, 0, 11));
        x.poke(0, 3, Check.op(21, 0, 0, 0, 11));
        x.poke(0, 4, Check.op(21, 1, 0, 0, 11));
        x.input(0, 0, 63);
        x.input(0, 0, 64);
        for (int p = 0; p < 3; p++) {
            x.command(0, 1, p + 1);
            Check.due("run at " + p, x.run(1), 0);
            Check.due("cause at " + p, x.control(0, 3), 2);
            Check.due("tval at " + p, x.control(0, 4), x.peek(0, p));
            Check.due("x1 at " + p, x.register(0, 1), 0);
            Check.due("INPUT at " + p, x.control(0, 11), 63);
        }
        Check.due("into x0", x.run(1), 1);
        Check.due("INPUT after that", x.control(0, 11), 64);
        Check.due("into x1", x.run(1), 1);
        Check.due("x1", x.register(0, 1), 64);
    }
}
