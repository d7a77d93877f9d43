/** Turns and counts, sentence by sentence: for each count what is counted, and what lies next to it and is not. */
public final class CountEdgesTest {
    private static final int CALLS = 512;

    public static void main(String[] args) {
        stallPassesTheTurn();
        rowStartsAnew();
        begun();
        fills();
        faults();
        tracedStoresAndDrops();
        flushes();
        interrupts();
        switchesAndSteps();
        countsAreEachGuestsOwn();
        longestLife();
        Check.end();
    }

    private static void stallPassesTheTurn() {
        Check.sentence("until it has done QUANTUM in a row, or its step was a stall; then the other one has the turn (a SWITCH)");
        for (int at = 0; at < 4; at++) {
            TwinHost x = new TwinHost(4);
            x.poke(0, at, 24);
            for (int step = 0; step < at; step++) {
                Check.due("step " + step, x.run(1), 1);
                Check.due("turn", x.turn(), 0);
            }
            Check.due("the stall", x.run(1), 0);
            Check.due("turn after a stall at step " + at, x.turn(), 1);
            Check.due("one switch", x.count(0, 7), 1);
            Check.due("none back", x.count(1, 7), 0);
            Check.due("steps", x.count(0, 8), at + 1);
        }
        TwinHost both = new TwinHost(4);
        both.poke(0, 0, 24);
        both.poke(1, 0, 24);
        Check.due("both stall, for ever", both.run(64), 0);
        Check.due("switches of guest 0", both.count(0, 7), 32);
        Check.due("switches of guest 1", both.count(1, 7), 32);
        Check.due("turn", both.turn(), 0);
    }

    private static void rowStartsAnew() {
        Check.sentence("the one that has the turn does steps until it has done QUANTUM in a row");
        TwinHost x = new TwinHost(4);
        x.poke(0, 2, 24);
        Check.due("two and a stall", x.run(3), 2);
        Check.due("a whole row of guest 1", x.run(3), 3);
        Check.due("turn", x.turn(), 1);
        x.run(1);
        Check.due("turn", x.turn(), 0);
        x.poke(0, 2, 0);
        Check.due("a whole row of guest 0", x.run(3), 3);
        Check.due("turn", x.turn(), 0);
        x.run(1);
        Check.due("turn", x.turn(), 1);
        TwinHost traps = new TwinHost(4);
        traps.poke(0, 0, 18);
        Check.due("traps are steps of the row", traps.run(3), 0);
        Check.due("turn", traps.turn(), 0);
        traps.run(1);
        Check.due("turn", traps.turn(), 1);
        TwinHost interrupted = new TwinHost(2);
        interrupted.command(0, 0, 1);
        interrupted.command(0, 7, 1);
        interrupted.command(0, 9, 0);
        Check.due("so is an interrupt", interrupted.run(2), 1);
        Check.due("turn", interrupted.turn(), 1);
    }

    private static void counts(TwinHost x, String what, int kind, int due) {
        Check.due(what + ": count " + kind, x.count(0, kind), due);
    }

    private static void begun() {
        Check.sentence("0 steps at which an instruction with an op from 17 on was begun");
        for (int op = 0; op < 32; op++) {
            for (int user = 0; user < 2; user++) {
                TwinHost x = Lab.one(Check.op(op, 3, 1, 2, 5), 40, 40);
                x.place(0, 10, user == 1);
                x.run(1);
                counts(x, "op " + op, 0, op >= 17 ? 1 : 0);
                counts(x, "op " + op, 8, 1);
            }
        }
        TwinHost stall = Lab.one(24, 0, 0);
        stall.run(1);
        counts(stall, "a stall", 0, 1);
        TwinHost outside = Lab.one(24, 0, 0);
        outside.place(0, 128, false);
        outside.run(1);
        counts(outside, "a fetch that faults", 0, 0);
        TwinHost interrupt = Lab.one(24, 0, 0);
        interrupt.command(0, 0, 1);
        interrupt.command(0, 7, 1);
        interrupt.command(0, 9, 0);
        interrupt.run(1);
        counts(interrupt, "an interrupt", 0, 0);
        TwinHost load = Lab.one(Check.op(10, 3, 1, 0, 0), 128, 0);
        load.run(1);
        counts(load, "a load that faults", 0, 0);
    }

    private static void fills() {
        Check.sentence("This is a FILL");
        TwinHost x = Lab.paged(false, false);
        x.poke(0, 32, Lab.entry(Lab.V | Lab.R, 4));
        counts(x, "nothing done", 1, 0);
        Lab.access(x, Lab.LOAD, 21);
        counts(x, "a fetch and a load", 1, 2);
        Lab.access(x, Lab.LOAD, 22);
        counts(x, "both go through", 1, 2);
        Lab.access(x, Lab.STORE, 21);
        counts(x, "a walk that faults", 1, 2);
        Lab.access(x, Lab.LOAD, 256);
        counts(x, "no walk", 1, 2);
    }

    private static void faults() {
        Check.sentence("2 traps with the causes 1, 5, 7, 12, 13, 15");
        int[][] plain = {{Check.op(10, 3, 1, 0, 0), 5, 1}, {Check.op(11, 3, 1, 0, 0), 7, 1}, {17, 9, 0}, {18, 3, 0}, {25, 2, 0}};
        for (int[] row : plain) {
            TwinHost x = Lab.one(row[0], 128, 0);
            x.run(1);
            Check.due("CAUSE", x.control(0, 3), row[1]);
            counts(x, "cause " + row[1], 2, row[2]);
        }
        TwinHost call = Lab.one(17, 0, 0);
        call.place(0, 10, true);
        call.run(1);
        counts(call, "cause 8", 2, 0);
        TwinHost fetch = new TwinHost(4);
        fetch.place(0, 128, false);
        fetch.run(1);
        counts(fetch, "cause 1", 2, 1);
        for (int kind = Lab.FETCH; kind <= Lab.STORE; kind++) {
            TwinHost x = Lab.paged(false, false);
            Lab.access(x, kind, 21);
            Check.due("CAUSE", x.control(0, 3), Lab.PAGE_FAULT[kind]);
            counts(x, "cause " + Lab.PAGE_FAULT[kind], 2, 1);
        }
        for (int bit = 1; bit <= 2; bit++) {
            TwinHost x = Lab.one(0, 0, 0);
            x.command(0, 0, 1);
            x.command(0, 7, bit);
            x.command(0, 9, 0);
            x.input(0, 0, 0);
            x.run(1);
            Check.due("CAUSE", x.control(0, 3), -2147483648 + (bit == 1 ? 5 : 9));
            counts(x, "an interrupt", 2, 0);
        }
    }

    private static void tracedStoresAndDrops() {
        Check.sentence("3 traced stores, 4 entries dropped");
        TwinHost x = Lab.paged(false, false);
        x.poke(0, 32, Lab.entry(Lab.V | Lab.R | Lab.W, 0));
        Check.due("a store in the table, beside its words", Lab.access(x, Lab.STORE, 47), 1);
        counts(x, "beside", 3, 1);
        counts(x, "beside", 4, 0);
        Check.due("a load there", Lab.access(x, Lab.LOAD, 47), 1);
        counts(x, "a load", 3, 1);
        Check.due("a store in no table", Lab.access(x, Lab.STORE, 31), 1);
        counts(x, "in no table", 3, 1);
        Check.due("a store at the leaf itself", Lab.access(x, Lab.STORE, 32), 1);
        counts(x, "at the leaf", 3, 2);
        counts(x, "at the leaf", 4, 2);
        x.poke(0, 35, 0);
        counts(x, "a poke", 3, 2);
        counts(x, "a poke", 4, 3);
        x.poke(0, 35, 0);
        counts(x, "a poke of no entry's word", 4, 3);
    }

    private static void flushes() {
        Check.sentence("5 flushes");
        TwinHost x = Lab.one(23, 0, 0);
        x.poke(0, 11, Check.op(19, 0, 0, 0, 6));
        x.poke(0, 12, Check.op(20, 0, 0, 0, 6));
        x.poke(0, 13, Check.op(19, 0, 0, 0, 5));
        int[] due = {1, 2, 2, 2};
        for (int flushes : due) {
            Check.due("retires", x.run(1), 1);
            counts(x, "after a step", 5, flushes);
        }
        x.command(0, 6, 0);
        counts(x, "a command of TABLE", 5, 3);
        x.command(0, 7, 0);
        x.command(2, 6, 0);
        counts(x, "other commands", 5, 3);
        TwinHost user = Lab.one(23, 0, 0);
        user.place(0, 10, true);
        user.run(1);
        counts(user, "23 in U", 5, 0);
    }

    private static void interrupts() {
        Check.sentence("6 interrupts");
        TwinHost x = Lab.one(18, 0, 0);
        x.run(1);
        counts(x, "another trap", 6, 0);
        x.command(0, 7, 1);
        x.command(0, 9, 0);
        x.run(1);
        counts(x, "IE off", 6, 0);
        x.command(0, 0, 1);
        x.run(1);
        counts(x, "IE on", 6, 1);
        x.run(1);
        counts(x, "IE off in the handler", 6, 1);
    }

    private static void switchesAndSteps() {
        Check.sentence("7 switches from it to the other, 8 all its steps");
        TwinHost x = new TwinHost(3);
        x.poke(0, 1, 18);
        x.poke(1, 1, 24);
        int[] steps = {1, 2, 3, 3, 3, 4, 5, 6, 6, 7};
        int[] switches = {0, 0, 1, 1, 1, 1, 1, 2, 2, 2};
        int[] switchesBack = {0, 0, 0, 0, 1, 1, 1, 1, 2, 2};
        for (int n = 0; n < steps.length; n++) {
            x.run(1);
            Check.due("steps of guest 0 after " + n, x.count(0, 8), steps[n]);
            Check.due("steps of guest 1 after " + n, x.count(1, 8), n + 1 - steps[n]);
            Check.due("switches of guest 0 after " + n, x.count(0, 7), switches[n]);
            Check.due("switches of guest 1 after " + n, x.count(1, 7), switchesBack[n]);
        }
    }

    private static void countsAreEachGuestsOwn() {
        Check.sentence("COUNTS of a guest");
        TwinHost x = Lab.paged(false, false);
        x.poke(0, 32, Lab.entry(Lab.V | Lab.R | Lab.W, 0));
        Lab.access(x, Lab.STORE, 32);
        x.poke(0, 112, 23);
        x.place(0, 240, false);
        x.run(2);
        x.command(0, 0, 1);
        x.command(0, 7, 1);
        x.command(0, 9, 0);
        x.run(1);
        int[] some = {0, 1, 3, 4, 5, 6, 8};
        for (int kind : some) {
            Check.due("guest 0 has some of " + kind, x.count(0, kind) > 0, true);
            Check.due("guest 1 has none of " + kind, x.count(1, kind), 0);
        }
    }

    private static void longestLife() {
        Check.sentence("An object is used for at most 512 calls after it has been made");
        TwinHost x = new TwinHost(16);
        x.poke(0, 0, Check.op(15, 1, 0, 0, 0));
        x.poke(1, 0, Check.op(15, 1, 0, 0, 0));
        int calls = 2;
        while (calls < CALLS - 3) {
            Check.due("call " + calls, x.run(64), 64);
            calls++;
        }
        Check.due("COUNT of guest 0", x.control(0, 10), (CALLS - 5) * 32);
        Check.due("steps of guest 1", x.count(1, 8), (CALLS - 5) * 32);
        Check.due("turn", x.turn(), 0);
    }
}
