/** A step, sentence by sentence: when an interrupt comes, how a word is cut up, what a trap does and leaves. */
public final class StepEdgesTest {
    private static final int MIN = Lab.MIN;
    private static final int MAX = Lab.MAX;
    private static final int TIMER_CAUSE = -2147483648 + 5;
    private static final int INPUT_CAUSE = -2147483648 + 9;

    public static void main(String[] args) {
        interruptNeedsUOrIE();
        interruptNeedsBothBits();
        inputGoesFirst();
        interruptComesBeforeTheFetch();
        interruptsAreOffInTheHandler();
        interruptComesAtTheExactStep();
        fieldsOfTheWord();
        immediatesAreSigned();
        countAndPcGrow();
        readsAreFromBefore();
        trapSetsAllOfIt();
        trapDoesNothingElse();
        tvalIsZeroWhereNoneIsSaid();
        Check.end();
    }

    /** A guest at word 10 that has the timer and an input pending. */
    private static TwinHost pending(int enable, int status, boolean user) {
        TwinHost x = Lab.one(Check.op(0, 3, 0, 0, 33), 0, 0);
        x.command(0, 9, 0);
        x.input(0, 0, 71);
        x.command(0, 7, enable);
        x.command(0, 0, status);
        x.place(0, 10, user);
        return x;
    }

    private static void goesOn(TwinHost x, String what) {
        Check.due(what + ": retires", x.run(1), 1);
        Check.due(what + ": x3", x.register(0, 3), 33);
        Check.due(what + ": interrupts", x.count(0, 6), 0);
        Check.due(what + ": CAUSE", x.control(0, 3), 0);
    }

    private static void interrupted(TwinHost x, int cause, String what) {
        Lab.trapped(x, cause, 0, what);
        Check.due(what + ": x3", x.register(0, 3), 0);
        Check.due(what + ": interrupts", x.count(0, 6), 1);
        Check.due(what + ": INPUT stays", x.control(0, 11), 71);
    }

    private static void interruptNeedsUOrIE() {
        Check.sentence("If it is in mode U or IE is on, and a bit is both in ENABLE and PENDING: TRAP");
        goesOn(pending(3, 0, false), "S, IE off");
        goesOn(pending(3, 14, false), "S, all of STATUS but IE");
        interrupted(pending(3, 1, false), INPUT_CAUSE, "S, IE on");
        interrupted(pending(3, 0, true), INPUT_CAUSE, "U, IE off");
        interrupted(pending(3, 1, true), INPUT_CAUSE, "U, IE on");
        interrupted(pending(1, 15, true), TIMER_CAUSE, "U, all of STATUS");
    }

    private static void interruptNeedsBothBits() {
        Check.sentence("a bit is both in ENABLE and PENDING");
        for (int user = 0; user < 2; user++) {
            goesOn(pending(0, 1, user == 1), "nothing in ENABLE");
            interrupted(pending(2, 1, user == 1), INPUT_CAUSE, "the input in ENABLE");
            interrupted(pending(1, 1, user == 1), TIMER_CAUSE, "the timer in ENABLE");
            TwinHost crossed = Lab.one(Check.op(0, 3, 0, 0, 33), 0, 0);
            crossed.command(0, 0, 1);
            crossed.command(0, 7, 2);
            crossed.command(0, 9, 0);
            crossed.place(0, 10, user == 1);
            goesOn(crossed, "the timer pending, the input in ENABLE");
            TwinHost other = Lab.one(Check.op(0, 3, 0, 0, 33), 0, 0);
            other.command(0, 0, 1);
            other.command(0, 7, 1);
            other.input(0, 0, 71);
            other.place(0, 10, user == 1);
            goesOn(other, "the input pending, the timer in ENABLE");
        }
    }

    private static void inputGoesFirst() {
        Check.sentence("the cause -2147483648 + 9 if bit 2 is one, else -2147483648 + 5");
        interrupted(pending(3, 1, false), INPUT_CAUSE, "both");
        interrupted(pending(2, 1, false), INPUT_CAUSE, "bit 2");
        interrupted(pending(1, 1, false), TIMER_CAUSE, "bit 1, though bit 2 is pending");
    }

    private static void interruptComesBeforeTheFetch() {
        Check.sentence("TVAL 0, at PC (an INTERRUPT). Otherwise the word w at PC is fetched");
        int[] places = {128, -1, MIN, MAX};
        for (int pc : places) {
            TwinHost x = pending(1, 0, true);
            x.command(0, 4, 44);
            x.place(0, pc, true);
            Check.due("retires", x.run(1), 0);
            Check.due("CAUSE", x.control(0, 3), TIMER_CAUSE);
            Check.due("TVAL", x.control(0, 4), 0);
            Check.due("EPC", x.control(0, 2), pc);
            Check.due("no fault", x.count(0, 2), 0);
        }
        TwinHost walks = Lab.paged(true, false);
        walks.command(0, 7, 1);
        walks.command(0, 9, 0);
        Check.due("retires", walks.run(1), 0);
        Check.due("no walk", walks.count(0, 1), 0);
        Check.due("no A", walks.peek(0, 35), Lab.entry(Lab.V | Lab.X | Lab.U, 4));
        TwinHost begins = pending(1, 0, true);
        begins.poke(0, 10, 17);
        begins.run(1);
        Check.due("nothing is begun", begins.count(0, 0), 0);
        TwinHost stalls = pending(1, 1, false);
        stalls.poke(0, 10, 24);
        stalls.run(1);
        Check.due("an interrupt, no wait", stalls.control(0, 3), TIMER_CAUSE);
        Check.due("the turn stays", stalls.turn(), 0);
    }

    private static void interruptsAreOffInTheHandler() {
        Check.sentence("PIE becomes IE, IE goes off; PS is on if the mode was S, else off; the mode becomes S");
        TwinHost x = pending(3, 1, true);
        x.poke(0, 90, Check.op(0, 4, 4, 0, 1));
        x.poke(0, 91, 22);
        Check.due("interrupt", x.run(1), 0);
        Check.due("the handler goes on, though both are pending", x.run(2), 2);
        Check.due("x4", x.register(0, 4), 1);
        Check.due("back in U", x.user(0), true);
        Check.due("IE is on again", x.control(0, 0), 3);
        Check.due("the next interrupt", x.run(1), 0);
        Check.due("interrupts", x.count(0, 6), 2);
        Check.due("EPC", x.control(0, 2), 10);
    }

    private static void interruptComesAtTheExactStep() {
        Check.sentence("1 if COUNT >= TIMER, 2 if an input is there");
        TwinHost timer = new TwinHost(16);
        timer.command(0, 0, 1);
        timer.command(0, 7, 1);
        timer.command(0, 9, 3);
        Check.due("three retire", timer.run(3), 3);
        Check.due("no interrupt yet", timer.count(0, 6), 0);
        Check.due("then it comes", timer.run(1), 0);
        Check.due("EPC", timer.control(0, 2), 3);
        TwinHost input = new TwinHost(16);
        input.command(0, 0, 1);
        input.command(0, 7, 2);
        input.input(0, 3, 71);
        Check.due("three retire", input.run(3), 3);
        Check.due("no interrupt yet", input.count(0, 6), 0);
        Check.due("then it comes", input.run(1), 0);
        Check.due("CAUSE", input.control(0, 3), INPUT_CAUSE);
    }

    private static void fieldsOfTheWord() {
        Check.sentence("op = w & 31, d = w >> 5 & 7, a = w >> 8 & 7, b = w >> 11 & 7, i = w >> 16 (signed)");
        for (int d = 1; d < 8; d++) {
            for (int a = 0; a < 8; a++) {
                int b = (a + d) % 8;
                TwinHost x = Lab.one(Check.op(2, d, a, b, -1) | 0xC000, 0, 0);
                for (int k = 1; k < 8; k++) {
                    x.give(0, k, 1 << 3 * k);
                }
                int due = x.register(0, a) - x.register(0, b);
                Check.due("retires", x.run(1), 1);
                for (int k = 1; k < 8; k++) {
                    Check.due("x" + k + " after x" + d + " = x" + a + " - x" + b, x.register(0, k), k == d ? due : 1 << 3 * k);
                }
            }
        }
        TwinHost free = Lab.one(Check.op(0, 3, 0, 0, 7) | 0xC000, 0, 0);
        free.run(1);
        Check.due("the bits 14 and 15 mean nothing", free.register(0, 3), 7);
        int all = Check.op(31, 7, 7, 7, -1) | 0xC000;
        Lab.trapped(Lab.one(all, 0, 0), 2, -1, "all bits on");
        int high = Check.op(25, 0, 0, 0, 0) | 0xC000;
        Lab.trapped(Lab.one(high, 0, 0), 2, high, "TVAL has the whole word");
    }

    private static void immediatesAreSigned() {
        Check.sentence("i = w >> 16 (signed)");
        int[] values = {0, 1, -1, 32767, -32768};
        for (int i : values) {
            TwinHost x = Lab.one(Check.op(0, 3, 0, 0, i), 0, 0);
            x.run(1);
            Check.due("x0 + " + i, x.register(0, 3), i);
            TwinHost jump = Lab.one(Check.op(15, 3, 0, 0, i), 0, 0);
            Check.due("a jump by " + i, jump.run(1), 1);
            Check.due("PC", jump.pc(0), 10 + i);
        }
    }

    private static void countAndPcGrow() {
        Check.sentence("COUNT grows by 1, and PC by 1 or, where that is said, to what PC becomes");
        TwinHost x = new TwinHost(16);
        x.place(0, 126, false);
        Check.due("the last two words", x.run(2), 2);
        Check.due("PC", x.pc(0), 128);
        Check.due("COUNT", x.control(0, 10), 2);
        x.command(0, 1, 127);
        Check.due("no third", x.run(1), 0);
        Check.due("PC", x.pc(0), 127);
        Check.due("COUNT", x.control(0, 10), 2);
        Check.due("EPC", x.control(0, 2), 128);
        TwinHost jump = Lab.one(Check.op(15, 0, 0, 0, 0), 0, 0);
        Check.due("a jump to itself", jump.run(5), 5);
        Check.due("PC", jump.pc(0), 10);
        Check.due("COUNT", jump.control(0, 10), 5);
    }

    private static void readsAreFromBefore() {
        Check.sentence("All that an instruction reads is as it was before it.");
        TwinHost sum = Lab.one(Check.op(1, 1, 1, 1, 0), 21, 0);
        sum.run(1);
        Check.due("x1 = x1 + x1", sum.register(0, 1), 42);
        TwinHost load = Lab.one(Check.op(10, 1, 1, 0, 1), 20, 0);
        load.poke(0, 21, 55);
        load.run(1);
        Check.due("x1 = the word at x1 + 1", load.register(0, 1), 55);
        TwinHost jump = Lab.one(Check.op(16, 1, 1, 0, 1), 20, 0);
        jump.run(1);
        Check.due("PC becomes x1 + 1", jump.pc(0), 21);
        Check.due("x1 = PC + 1", jump.register(0, 1), 11);
        TwinHost count = Lab.one(Check.op(20, 3, 0, 0, 10), 0, 0);
        count.give(0, 3, 33);
        count.run(1);
        Check.due("COUNT without this instruction", count.register(0, 3), 0);
        TwinHost pending = Lab.one(Check.op(20, 3, 0, 0, 8), 0, 0);
        pending.command(0, 9, 1);
        pending.run(1);
        Check.due("PENDING before it retires", pending.register(0, 3), 0);
        Check.due("PENDING after that", pending.control(0, 8), 1);
        TwinHost swap = Lab.one(Check.op(19, 1, 1, 0, 5), 44, 0);
        swap.command(0, 5, 55);
        swap.run(1);
        Check.due("x1 and SCRATCH", swap.register(0, 1) * 100 + swap.control(0, 5), 5544);
        TwinHost or = Lab.one(Check.op(20, 1, 1, 0, 5), 4, 0);
        or.command(0, 5, 3);
        or.run(1);
        Check.due("x1 and SCRATCH, or", or.register(0, 1) * 100 + or.control(0, 5), 307);
        TwinHost without = Lab.one(Check.op(21, 1, 1, 0, 5), 2, 0);
        without.command(0, 5, 7);
        without.run(1);
        Check.due("x1 and SCRATCH, without", without.register(0, 1) * 100 + without.control(0, 5), 705);
        TwinHost over = Lab.one(Check.op(11, 0, 0, 1, 10), Check.op(15, 0, 0, 0, 50), 0);
        over.run(1);
        Check.due("a store over itself is done, not what it stored", over.pc(0), 11);
    }

    private static void trapSetsAllOfIt() {
        Check.sentence("A TRAP with a cause and TVAL: CAUSE, TVAL become these, EPC becomes PC;");
        for (int status = 0; status < 16; status++) {
            for (int user = 0; user < 2; user++) {
                int w = Check.op(31, 0, 0, 0, -7);
                TwinHost x = Lab.one(w, 0, 0);
                x.command(0, 0, status);
                x.command(0, 1, MIN);
                x.place(0, 10, user == 1);
                Check.due("retires", x.run(1), 0);
                Check.due("CAUSE", x.control(0, 3), 2);
                Check.due("TVAL", x.control(0, 4), w);
                Check.due("EPC", x.control(0, 2), 10);
                Check.due("PC", x.pc(0), MIN);
                Check.due("mode U", x.user(0), false);
                int due = status & 8 | (user == 1 ? 0 : 4) | (status & 1) << 1;
                Check.due("STATUS from " + status + (user == 1 ? " in U" : " in S"), x.control(0, 0), due);
            }
        }
    }

    private static void trapDoesNothingElse() {
        Check.sentence("nothing else is done, and nothing retires");
        int[] words = {Check.op(10, 3, 1, 0, 0), Check.op(11, 3, 1, 2, 0), 17, 18, Check.op(19, 3, 1, 0, 12), 25};
        for (int w : words) {
            TwinHost x = Lab.one(w, 128, 9);
            x.give(0, 3, 33);
            x.command(0, 5, 55);
            x.command(0, 7, 2);
            x.command(0, 9, 99);
            Check.due("retires", x.run(1), 0);
            Check.due("x1", x.register(0, 1), 128);
            Check.due("x3", x.register(0, 3), 33);
            Check.due("VECTOR", x.control(0, 1), 90);
            Check.due("SCRATCH", x.control(0, 5), 55);
            Check.due("ENABLE", x.control(0, 7), 2);
            Check.due("TIMER", x.control(0, 9), 99);
            Check.due("COUNT", x.control(0, 10), 0);
            Check.due("flushes", x.count(0, 5), 0);
            for (int p = 0; p < 128; p++) {
                Check.due("word " + p, x.peek(0, p), p == 10 ? w : 0);
            }
        }
    }

    private static void tvalIsZeroWhereNoneIsSaid() {
        Check.sentence("A TRAP's TVAL is 0 where none is said.");
        for (int user = 0; user < 2; user++) {
            for (int op = 17; op <= 18; op++) {
                TwinHost x = Lab.one(Check.op(op, 3, 1, 2, -9), 0, 0);
                x.command(0, 4, 44);
                x.place(0, 10, user == 1);
                Lab.trapped(x, op == 18 ? 3 : user == 1 ? 8 : 9, 0, "op " + op);
            }
        }
    }
}
