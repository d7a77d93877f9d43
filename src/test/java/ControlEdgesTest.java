/** The controls, sentence by sentence: which bits are kept, what is not stored to, when a bit is pending. */
public final class ControlEdgesTest {
    private static final int MIN = Lab.MIN;
    private static final int MAX = Lab.MAX;
    private static final int COMMAND = 0;
    private static final int[] WAYS = {COMMAND, 19, 20, 21};

    public static void main(String[] args) {
        Check.sentence("0 STATUS (4 bits: 1 IE interrupts on, 2 PIE, 4 PS, 8 SUM)");
        keeps(0, 15);
        Check.sentence("6 TABLE (bits 128 and 15: 128 translation is on, + a page number)");
        keeps(6, 128 + 15);
        Check.sentence("7 ENABLE (2 bits)");
        keeps(7, 3);
        Check.sentence("1 to 5 and 9 are any ints");
        int[] any = {1, 2, 3, 4, 5, 9};
        for (int k : any) {
            keeps(k, -1);
        }
        translationIsBit128();
        notStoredTo();
        timerIsPending();
        inputIsPending();
        laterInputsWait();
        readingTakesTheFirst();
        readingTakesNothing();
        eachReadingTakesOne();
        countIsWhatRetired();
        Check.end();
    }

    /** Each bit alone, all bits and none, stored by command and by each instruction that stores. */
    private static void keeps(int k, int kept) {
        for (int way : WAYS) {
            for (int bit = 0; bit < 32; bit++) {
                Check.due("bit " + bit + " of " + k + " by " + way, stored(way, k, 1 << bit), 1 << bit & kept);
            }
            int[] values = {0, -1, MIN, MAX, kept + 1, ~kept};
            for (int v : values) {
                Check.due(v + " in " + k + " by " + way, stored(way, k, v), v & kept);
            }
        }
    }

    /** Stores v to control k; 20 starts with no bits, and 21 with all of them. */
    private static int stored(int way, int k, int v) {
        if (way == COMMAND) {
            TwinHost x = new TwinHost(4);
            Check.due("command", x.command(0, k, v), true);
            return x.control(0, k);
        }
        TwinHost x = Lab.one(Check.op(way, 0, 1, 0, k), way == 21 ? ~v : v, 0);
        if (k == 6) {
            // Translation may be on before, so the code must be where a walk finds it.
            return storedToTable(x, way);
        }
        x.command(0, k, way == 21 ? -1 : 0);
        Check.due("retired", x.run(1), 1);
        return x.control(0, k);
    }

    private static int storedToTable(TwinHost x, int way) {
        x.command(0, 6, way == 21 ? 128 + 15 : 0);
        if (way != 21) {
            Check.due("retired", x.run(1), 1);
            return x.control(0, 6);
        }
        // Page 15 is no page, so the bits are taken away in two halves.
        int without = x.register(0, 1);
        x.command(0, 6, 15);
        Check.due("retired", x.run(1), 1);
        int low = x.control(0, 6);
        x.poke(0, 0, 9);
        x.command(0, 6, 128);
        x.place(0, 10, false);
        Check.due("retired", x.run(1), 1);
        Check.due("x1", x.register(0, 1), without);
        return low | x.control(0, 6);
    }

    private static void translationIsBit128() {
        Check.sentence("6 TABLE (bits 128 and 15: 128 translation is on, + a page number)");
        int[] off = {0, 15, 64, 127, 256, MIN};
        for (int v : off) {
            TwinHost x = new TwinHost(4);
            x.command(0, 6, v);
            Check.due("off with " + v, x.run(1), 1);
            Check.due("no fill", x.count(0, 1), 0);
        }
        int[] on = {128, 129, 135, 255 - 8, -1 - 8};
        for (int v : on) {
            TwinHost x = new TwinHost(4);
            x.poke(0, (v & 7) * 16 + 1, Lab.entry(Lab.V | Lab.X, (v & 7) < 4 ? 4 : 0));
            x.place(0, 64, false);
            x.command(0, 6, v);
            Check.due("on with " + v, x.run(1), 1);
            Check.due("a fill", x.count(0, 1), 1);
            Check.due("from page " + (v & 7), x.traced(0, v & 7), true);
        }
    }

    private static void notStoredTo() {
        Check.sentence("8, 10 and 11 are not stored to");
        int[] all = {8, 10, 11};
        for (int k : all) {
            for (int op = 19; op <= 21; op++) {
                int w = Check.op(op, 3, 1, 0, k);
                TwinHost x = Lab.one(w, -1, 0);
                x.input(0, 0, 5);
                x.give(0, 3, 33);
                int was = x.control(0, k);
                Lab.trapped(x, 2, w, "op " + op + " of control " + k);
                Check.due("control " + k, x.control(0, k), was);
                Check.due("x3", x.register(0, 3), 33);
                Check.due("INPUT", x.control(0, 11), 5);
            }
            Check.due("command " + k, new TwinHost(4).command(0, k, 0), false);
        }
    }

    /** A guest that has retired so many instructions that do nothing. */
    private static TwinHost after(int count) {
        TwinHost x = new TwinHost(16);
        for (int done = 0; done < count; done++) {
            x.run(1);
        }
        Check.due("COUNT", x.control(0, 10), count);
        return x;
    }

    private static void timerIsPending() {
        Check.sentence("1 if COUNT >= TIMER");
        int[] counts = {0, 1, 7};
        for (int count : counts) {
            int[] timers = {MIN, -1, count - 1, count, count + 1, MAX};
            for (int timer : timers) {
                TwinHost x = after(count);
                x.command(0, 9, timer);
                Check.due("PENDING, " + count + " and TIMER " + timer, x.control(0, 8), count >= timer ? 1 : 0);
            }
        }
        Check.due("in a new object", new TwinHost(4).control(0, 8), 0);
        TwinHost x = new TwinHost(16);
        x.command(0, 9, 3);
        int[] due = {0, 0, 0, 1, 1};
        for (int count = 0; count < due.length; count++) {
            Check.due("PENDING at " + count, x.control(0, 8), due[count]);
            Check.due("of the other guest", x.control(1, 8), 0);
            x.run(1);
        }
    }

    private static void inputIsPending() {
        Check.sentence("the first of the row IS THERE when its time is not more than COUNT");
        int[] counts = {0, 1, 7};
        for (int count : counts) {
            int[] times = {0, Math.max(count - 1, 0), count, count + 1, MAX};
            for (int time : times) {
                TwinHost x = after(count);
                Check.due("no input", x.control(0, 8), 0);
                x.input(0, time, 71);
                boolean there = time <= count;
                Check.due("PENDING at " + count + " with time " + time, x.control(0, 8), there ? 2 : 0);
                Check.due("INPUT at " + count + " with time " + time, x.control(0, 11), there ? 71 : 0);
                Check.due("PENDING of the other guest", x.control(1, 8), 0);
            }
        }
    }

    private static void laterInputsWait() {
        Check.sentence("those of a guest are in a row; the first of the row IS THERE");
        TwinHost x = new TwinHost(16);
        x.input(0, 2, 71);
        x.input(0, 0, 72);
        for (int count = 0; count < 4; count++) {
            Check.due("PENDING at " + count, x.control(0, 8), count < 2 ? 0 : 2);
            Check.due("INPUT at " + count, x.control(0, 11), count < 2 ? 0 : 71);
            x.run(1);
        }
    }

    private static void readingTakesTheFirst() {
        Check.sentence("Reading INPUT by an instruction gives the value of the first one and takes it out of the row");
        for (int op = 20; op <= 21; op++) {
            for (int d = 0; d < 4; d += 3) {
                TwinHost x = Lab.one(Check.op(op, d, 0, 0, 11), 0, 0);
                x.input(0, 0, -71);
                x.input(0, 9, 72);
                Check.due("retired", x.run(1), 1);
                Check.due("x" + d, x.register(0, d), d == 0 ? 0 : -71);
                Check.due("PENDING", x.control(0, 8), 0);
                Check.due("the next one is not there yet", x.control(0, 11), 0);
                for (int n = 0; n < 5; n++) {
                    Check.due("there is room for five", x.input(0, 0, 73), true);
                }
                Check.due("and for no more", x.input(0, 0, 73), false);
            }
        }
    }

    private static void readingTakesNothing() {
        Check.sentence("takes it out of the row, if it is there, else gives 0");
        TwinHost empty = Lab.one(Check.op(20, 3, 0, 0, 11), 0, 0);
        empty.give(0, 3, 33);
        Check.due("of an empty row", empty.run(1), 1);
        Check.due("x3", empty.register(0, 3), 0);
        TwinHost x = Lab.one(Check.op(20, 3, 0, 0, 11), 0, 0);
        x.poke(0, 11, Check.op(20, 4, 0, 0, 11));
        x.give(0, 3, 33);
        x.input(0, 1, 71);
        Check.due("a step too early", x.run(1), 1);
        Check.due("x3", x.register(0, 3), 0);
        Check.due("it is there now", x.control(0, 11), 71);
        Check.due("just in time", x.run(1), 1);
        Check.due("x4", x.register(0, 4), 71);
        Check.due("it is there no more", x.control(0, 8), 0);
    }

    private static void eachReadingTakesOne() {
        Check.sentence("An input with a time and a value waits, as the last in the row of guest g (whatever the times are)");
        TwinHost x = new TwinHost(16);
        for (int p = 0; p < 16; p++) {
            x.poke(0, p, Check.op(20, 1, 0, 0, 11));
        }
        int[] times = {5, 0, 6, 3, 9, 9};
        for (int n = 0; n < 6; n++) {
            Check.due("input " + n, x.input(0, times[n], 100 + n), true);
        }
        int[] due = {0, 0, 0, 0, 0, 100, 101, 102, 103, 104, 105, 0};
        for (int count = 0; count < due.length; count++) {
            x.run(1);
            Check.due("x1 at " + count, x.register(0, 1), due[count]);
        }
        Check.due("an empty row has room", x.input(0, 0, MAX), true);
        Check.due("INPUT", x.control(0, 11), MAX);
    }

    private static void countIsWhatRetired() {
        Check.sentence("10 COUNT, the instructions it has retired");
        TwinHost x = new TwinHost(1);
        x.poke(0, 1, 18);
        x.poke(0, 3, 24);
        x.command(0, 1, 2);
        Check.due("one, and one of guest 1", x.run(2), 2);
        Check.due("COUNT", x.control(0, 10), 1);
        Check.due("a trap, and one of guest 1", x.run(2), 1);
        Check.due("COUNT after a trap", x.control(0, 10), 1);
        Check.due("one, and one of guest 1", x.run(2), 2);
        Check.due("COUNT", x.control(0, 10), 2);
        Check.due("a stall, and one of guest 1", x.run(2), 1);
        Check.due("COUNT after a stall", x.control(0, 10), 2);
        x.command(0, 9, 2);
        x.command(0, 7, 1);
        x.command(0, 0, 1);
        Check.due("an interrupt, and one of guest 1", x.run(2), 1);
        Check.due("COUNT after an interrupt", x.control(0, 10), 2);
        Check.due("COUNT of guest 1", x.control(1, 10), 5);
    }
}
