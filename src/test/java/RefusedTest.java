import java.util.function.Supplier;
import java.util.function.ToLongFunction;

/**
 * Promises 2 to 16 at their limits: the last argument that is taken and the first that is refused, on
 * both sides; and that a call that is refused changes nothing, not even what only later steps show.
 */
public final class RefusedTest {
    private static final int MIN = Lab.MIN;
    private static final int MAX = Lab.MAX;

    private static final int[] NO_WORDS = {-1, 128, -128, MIN, MAX};
    private static final int[] NO_REGISTERS = {-1, 8, MIN, MAX};
    private static final int[] NO_CONTROLS = {-1, 12, MIN, MAX};
    private static final int[] NOT_STORED_TO = {8, 10, 11};

    public static void main(String[] args) {
        busyShowsAll();
        poke();
        peek();
        give();
        register();
        command();
        control();
        placePcAndUser();
        input();
        inputWhenSixWait();
        run();
        shadow();
        traced();
        count();
        looking();
        Check.end();
    }

    private static int flag(boolean answer) {
        return answer ? 1 : 0;
    }

    private static void refused(String what, ToLongFunction<TwinHost> call, long due) {
        refused(what, RefusedTest::busy, call, due);
    }

    private static void refused(String what, Supplier<TwinHost> make, ToLongFunction<TwinHost> call, long due) {
        Check.due(what, call.applyAsLong(make.get()), due);
        Check.changesNothing(what, make, call::applyAsLong);
    }

    /**
     * Both guests in the middle of their work and of a row of steps: guest 0 with translation, shadow
     * entries of both kinds, inputs and a timer; guest 1 without translation, in mode U, and with inputs.
     */
    private static TwinHost busy() {
        TwinHost x = new TwinHost(5);
        int[] code = {
            Check.op(20, 1, 0, 0, 11), Check.op(1, 2, 2, 1, 0), Check.op(11, 0, 0, 2, 64), Check.op(10, 3, 0, 0, 80),
            Check.op(11, 0, 0, 2, 60), 24, Check.op(15, 7, 0, 0, -6)};
        for (int p = 0; p < code.length; p++) {
            x.poke(0, p, code[p]);
        }
        x.poke(0, 8, Check.op(0, 4, 4, 0, 1));
        x.poke(0, 9, Check.op(20, 5, 0, 0, 11));
        x.poke(0, 10, Check.op(1, 6, 6, 5, 0));
        x.poke(0, 11, 22);
        x.poke(0, 32, 15);
        x.poke(0, 33, 1 + 3 * 256);
        x.poke(0, 48, 7 + 5 * 256);
        x.poke(0, 49, 3 + 6 * 256);
        x.poke(1, 0, Check.op(0, 1, 1, 0, 3));
        x.poke(1, 1, 17);
        x.poke(1, 8, Check.op(20, 2, 0, 0, 11));
        x.poke(1, 9, Check.op(11, 0, 0, 2, 100));
        x.poke(1, 10, 22);
        x.poke(1, 127, 9);
        for (int g = 0; g < 2; g++) {
            x.command(g, 1, 8);
            x.command(g, 5, 66);
            x.give(g, 7, 77);
            for (int n = 0; n < 5; n++) {
                x.input(g, 9 * n, 20 + n + 10 * g);
            }
        }
        x.command(0, 0, 1);
        x.command(0, 6, 130);
        x.command(0, 7, 3);
        x.command(0, 9, 30);
        x.place(1, 0, true);
        x.run(18);
        return x;
    }

    /** The refusals below prove little if busy() has nothing to lose. */
    private static void busyShowsAll() {
        TwinHost x = busy();
        Check.due("turn", x.turn(), 1);
        Check.due("input of guest 0 waits", x.control(0, 11), 21);
        Check.due("input of guest 1 is yet to come", x.control(1, 11), 0);
        Check.due("entry 0", x.shadow(0, 0), 8 * 14);
        Check.due("entry 4", x.shadow(0, 4), 5 + 8 * 6 + 512);
        Check.due("entry 5", x.shadow(0, 5), 6 + 8 * 2);
        Check.due("its row of steps is not over", x.run(1) >= 0 && x.turn() == 1, true);
    }

    private static void poke() {
        Check.sentence("Answers the old word; 0, refused, if one does not exist.");
        TwinHost x = new TwinHost(4);
        int[] words = {0, 127};
        for (int g = 0; g < 2; g++) {
            for (int p : words) {
                Check.due("poke " + g + " " + p, x.poke(g, p, 40 + p + g), 0);
                Check.due("again", x.poke(g, p, 50 + p + g), 40 + p + g);
                Check.due("the word", x.peek(g, p), 50 + p + g);
            }
        }
        for (int p : NO_WORDS) {
            refused("poke 0 " + p, host -> host.poke(0, p, 9), 0);
            refused("poke 1 " + p, host -> host.poke(1, p, 9), 0);
        }
        for (int g : Lab.NO_GUESTS) {
            refused("poke of guest " + g, host -> host.poke(g, 32, 9), 0);
            refused("poke of guest " + g + " at no word", host -> host.poke(g, -1, 9), 0);
        }
    }

    private static void peek() {
        Check.sentence("Word p of the memory of guest g; 0 if one does not exist.");
        TwinHost x = new TwinHost(4);
        for (int g = 0; g < 2; g++) {
            for (int p = 0; p < 128; p++) {
                x.poke(g, p, 1000 * g + p + 1);
            }
        }
        for (int g = 0; g < 2; g++) {
            Check.due("peek 0", x.peek(g, 0), 1000 * g + 1);
            Check.due("peek 127", x.peek(g, 127), 1000 * g + 128);
            for (int p : NO_WORDS) {
                Check.due("peek " + p, x.peek(g, p), 0);
            }
        }
        for (int g : Lab.NO_GUESTS) {
            Check.due("peek of guest " + g, x.peek(g, 3), 0);
        }
    }

    private static void give() {
        Check.sentence("Register k of guest g becomes v (x0 stays 0: true, too); false if one does not exist.");
        TwinHost x = new TwinHost(4);
        for (int g = 0; g < 2; g++) {
            Check.due("give 0", x.give(g, 0, 5), true);
            Check.due("x0", x.register(g, 0), 0);
            Check.due("give 1", x.give(g, 1, 15 + g), true);
            Check.due("x1", x.register(g, 1), 15 + g);
            Check.due("give 7", x.give(g, 7, MIN + g), true);
            Check.due("x7", x.register(g, 7), MIN + g);
        }
        Check.changesNothing("give of x0", RefusedTest::busy, host -> host.give(0, 0, 9));
        for (int k : NO_REGISTERS) {
            refused("give " + k, host -> flag(host.give(0, k, 9)), 0);
            refused("give " + k + " of guest 1", host -> flag(host.give(1, k, 9)), 0);
        }
        for (int g : Lab.NO_GUESTS) {
            refused("give of guest " + g, host -> flag(host.give(g, 1, 9)), 0);
            refused("give x0 of guest " + g, host -> flag(host.give(g, 0, 9)), 0);
        }
    }

    private static void register() {
        Check.sentence("Register k of guest g; 0 if one does not exist.");
        TwinHost x = new TwinHost(4);
        for (int g = 0; g < 2; g++) {
            for (int k = 1; k < 8; k++) {
                x.give(g, k, 10 * k + g);
            }
        }
        for (int g = 0; g < 2; g++) {
            Check.due("register 0", x.register(g, 0), 0);
            Check.due("register 1", x.register(g, 1), 10 + g);
            Check.due("register 7", x.register(g, 7), 70 + g);
            for (int k : NO_REGISTERS) {
                Check.due("register " + k, x.register(g, k), 0);
            }
        }
        for (int g : Lab.NO_GUESTS) {
            Check.due("register of guest " + g, x.register(g, 1), 0);
        }
    }

    private static void command() {
        Check.sentence("false if one does not exist or the control is not stored to.");
        TwinHost x = new TwinHost(4);
        int[] storedTo = {0, 1, 2, 3, 4, 5, 6, 7, 9};
        for (int g = 0; g < 2; g++) {
            for (int k : storedTo) {
                Check.due("command " + k, x.command(g, k, 3 - g), true);
                Check.due("control " + k, x.control(g, k), 3 - g);
            }
        }
        for (int k : NOT_STORED_TO) {
            refused("command " + k, host -> flag(host.command(0, k, 7)), 0);
            refused("command " + k + " of guest 1", host -> flag(host.command(1, k, 0)), 0);
        }
        for (int k : NO_CONTROLS) {
            refused("command " + k, host -> flag(host.command(0, k, 7)), 0);
            refused("command " + k + " of guest 1", host -> flag(host.command(1, k, 7)), 0);
        }
        for (int g : Lab.NO_GUESTS) {
            refused("command of guest " + g, host -> flag(host.command(g, 1, 7)), 0);
            refused("TABLE of guest " + g, host -> flag(host.command(g, 6, 0)), 0);
        }
    }

    private static void control() {
        Check.sentence("for INPUT the value of the input that is there, which stays, or 0; 0 if one does not exist.");
        TwinHost x = new TwinHost(4);
        for (int g = 0; g < 2; g++) {
            x.command(g, 0, 5 + g);
            x.input(g, 0, 55 + g);
            Check.due("control 0", x.control(g, 0), 5 + g);
            Check.due("control 11", x.control(g, 11), 55 + g);
            Check.due("control 11 again", x.control(g, 11), 55 + g);
            for (int k : NO_CONTROLS) {
                Check.due("control " + k, x.control(g, k), 0);
            }
        }
        for (int g : Lab.NO_GUESTS) {
            Check.due("control 9 of guest " + g, x.control(g, 9), 0);
            Check.due("control 11 of guest " + g, x.control(g, 11), 0);
        }
    }

    private static void placePcAndUser() {
        Check.sentence("PC and mode of guest g become address (any) and U (user) or S; false if there is no such guest.");
        TwinHost x = new TwinHost(4);
        for (int g = 0; g < 2; g++) {
            Check.due("place", x.place(g, 7 + g, true), true);
            Check.due("pc", x.pc(g), 7 + g);
            Check.due("user", x.user(g), true);
        }
        for (int g : Lab.NO_GUESTS) {
            Check.due("pc of guest " + g, x.pc(g), 0);
            Check.due("user of guest " + g, x.user(g), false);
            refused("place of guest " + g, host -> flag(host.place(g, 3, true)), 0);
            refused("place of guest " + g, host -> flag(host.place(g, 3, false)), 0);
        }
    }

    private static void input() {
        Check.sentence("false if there is none, time is negative, or 6 wait.");
        for (int g = 0; g < 2; g++) {
            TwinHost x = new TwinHost(4);
            Check.due("time 0", x.input(g, 0, 5), true);
            Check.due("INPUT", x.control(g, 11), 5);
            Check.due("the last time", x.input(g, MAX, MIN), true);
        }
        refused("time -1", host -> flag(host.input(0, -1, 9)), 0);
        refused("time -1 of guest 1", host -> flag(host.input(1, -1, 9)), 0);
        refused("the least time", host -> flag(host.input(0, MIN, 9)), 0);
        for (int g : Lab.NO_GUESTS) {
            refused("input of guest " + g, host -> flag(host.input(g, 0, 9)), 0);
        }
    }

    /** Both rows are full; x2 of each guest tells which inputs it took, and in which round. */
    private static TwinHost full() {
        TwinHost x = new TwinHost(3);
        int[] code = {Check.op(20, 1, 0, 0, 11), Check.op(7, 2, 2, 3, 0), Check.op(1, 2, 2, 1, 0), Check.op(15, 0, 0, 0, -3)};
        for (int g = 0; g < 2; g++) {
            for (int p = 0; p < code.length; p++) {
                x.poke(g, p, code[p]);
            }
            x.give(g, 3, 3);
            for (int n = 1; n <= 6; n++) {
                x.input(g, 5 * n, n);
            }
        }
        return x;
    }

    private static void inputWhenSixWait() {
        Check.sentence("false if there is none, time is negative, or 6 wait.");
        for (int g = 0; g < 2; g++) {
            TwinHost x = new TwinHost(4);
            for (int n = 1; n <= 6; n++) {
                Check.due("input " + n, x.input(g, 50, n), true);
            }
            Check.due("input 7", x.input(g, 50, 7), false);
            Check.due("input 7 at 0", x.input(g, 0, 7), false);
            Check.due("the other guest has room", x.input(1 - g, 0, 8), true);
            Check.due("its INPUT", x.control(1 - g, 11), 8);
        }
        refused("a seventh", RefusedTest::full, host -> flag(host.input(0, 0, 9)), 0);
        refused("a seventh, late", RefusedTest::full, host -> flag(host.input(0, 99, 9)), 0);
        refused("a seventh of guest 1", RefusedTest::full, host -> flag(host.input(1, 0, 9)), 0);
        TwinHost x = full();
        x.run(64);
        x.run(16);
        Check.due("all six are taken in time", x.register(0, 2), 012340560);
    }

    private static void run() {
        Check.sentence("Answers how many instructions retired; -1 if n is not 1 .. 64.");
        TwinHost x = new TwinHost(4);
        Check.due("run 1", x.run(1), 1);
        Check.due("steps", x.count(0, 8) + x.count(1, 8), 1);
        Check.due("run 64", x.run(64), 64);
        Check.due("steps", x.count(0, 8) + x.count(1, 8), 65);
        int[] wrong = {0, 65, -1, -64, MIN, MAX};
        for (int n : wrong) {
            refused("run " + n, host -> host.run(n), -1);
        }
    }

    /** All 16 virtual pages have an entry: four large leaves, and code in each page that goes to the next. */
    private static TwinHost allFilled() {
        TwinHost x = new TwinHost(16);
        for (int n = 0; n < 4; n++) {
            x.poke(0, 32 + n, 11 + n % 2 * 4 * 256);
        }
        for (int page = 0; page < 8; page++) {
            x.poke(0, page * 16 + 15, Check.op(15, 0, 0, 0, 16));
        }
        x.command(0, 6, 130);
        x.place(0, 15, false);
        x.run(16);
        return x;
    }

    private static void shadow() {
        Check.sentence("-1 if there is none or one does not exist.");
        TwinHost x = allFilled();
        Check.due("shadow 0", x.shadow(0, 0), 8 * 10);
        Check.due("shadow 15", x.shadow(0, 15), 7 + 8 * 10);
        int[] none = {-1, 16, MIN, MAX};
        for (int v : none) {
            Check.due("shadow " + v, x.shadow(0, v), -1);
        }
        for (int g : Lab.NO_GUESTS) {
            Check.due("shadow of guest " + g, x.shadow(g, 0), -1);
        }
        Check.due("there is none", x.shadow(1, 0), -1);
        Check.due("nor there", x.shadow(1, 15), -1);
    }

    private static void traced() {
        Check.sentence("Whether page p of the memory of guest g is traced; false if one does not exist.");
        for (int g = 0; g < 2; g++) {
            for (int page = 0; page < 8; page += 7) {
                TwinHost x = new TwinHost(1);
                x.poke(g, page * 16, 9 + (4 - page / 4 * 4) * 256);
                x.command(g, 6, 128 + page);
                x.run(2);
                Check.due("traced " + page, x.traced(g, page), true);
                Check.due("traced -1", x.traced(g, -1), false);
                Check.due("traced 8", x.traced(g, 8), false);
                Check.due("traced MIN", x.traced(g, MIN), false);
                Check.due("traced MAX", x.traced(g, MAX), false);
                for (int no : Lab.NO_GUESTS) {
                    Check.due("traced of guest " + no, x.traced(no, page), false);
                }
            }
        }
    }

    private static void count() {
        Check.sentence("A count 0 .. 8 of guest g; -1 if one does not exist.");
        TwinHost x = new TwinHost(1);
        x.poke(0, 0, 18);
        x.command(0, 1, 1);
        x.run(5);
        Check.due("count 0", x.count(0, 0), 1);
        Check.due("count 8", x.count(0, 8), 3);
        Check.due("count 8 of guest 1", x.count(1, 8), 2);
        int[] none = {-1, 9, MIN, MAX};
        for (int kind : none) {
            Check.due("count " + kind, x.count(0, kind), -1);
            Check.due("count " + kind + " of guest 1", x.count(1, kind), -1);
        }
        for (int g : Lab.NO_GUESTS) {
            Check.due("count of guest " + g, x.count(g, 8), -1);
        }
    }

    private static void looking() {
        Check.sentence("A call that is refused (-1 or false, or 0 for poke) changes nothing.");
        for (int g = -1; g < 3; g++) {
            int guest = g;
            Check.changesNothing("looking at guest " + g, RefusedTest::busy, host -> lookAt(host, guest));
        }
    }

    private static void lookAt(TwinHost x, int g) {
        x.pc(g);
        x.user(g);
        x.turn();
        for (int k = -1; k < 13; k++) {
            x.control(g, k);
            x.register(g, k);
            x.traced(g, k);
            x.count(g, k);
        }
        int[] ends = {-1, 0, 15, 16, 127, 128};
        for (int k : ends) {
            x.shadow(g, k);
            x.peek(g, k);
        }
    }
}
