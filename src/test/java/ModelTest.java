import java.util.Random;

/** Long random runs of calls: every answer must be the model's, whatever the arguments are. */
public final class ModelTest {
    private static final int OBJECTS = 12000;
    /** An object is made for 512 calls; the last of them look at all there is but the memory. */
    private static final int CALLS = 512;
    private static final int LAST_LOOK = 111;
    private static final int[] ODD = {Integer.MIN_VALUE, Integer.MAX_VALUE, -1, 2, 8, 12, 16, 65, 128, 256};

    private static final int[] TABLE_WORDS = {32, 33, 34, 35, 48, 49, 50, 51};

    private final Random random;
    private final TwinHost host;
    private final Model model;
    private final StringBuilder calls = new StringBuilder();
    private boolean same = true;
    private int called = 0;

    private ModelTest(long seed) {
        random = new Random(seed);
        int quantum = random.nextInt(20) - 1;
        host = new TwinHost(quantum);
        model = new Model(quantum);
        calls.append("seed ").append(seed).append(": quantum ").append(quantum);
    }

    public static void main(String[] args) {
        long[] seen = new long[9];
        for (int seed = 0; seed < OBJECTS; seed++) {
            ModelTest test = new ModelTest(seed);
            test.go();
            Check.due(test.same ? "seed " + seed : test.calls.toString(), test.same, true);
            Check.due("calls of seed " + seed, test.called, CALLS);
            for (int kind = 0; kind < 9; kind++) {
                seen[kind] += test.model.count(0, kind) + test.model.count(1, kind);
            }
        }
        for (int kind = 0; kind < 9; kind++) {
            System.out.println("count " + kind + " in all: " + seen[kind]);
            Check.due("count " + kind + " is well tried", seen[kind] > OBJECTS / 2, true);
        }
        Check.end();
    }

    private void go() {
        layOut(0);
        layOut(1);
        while (called < CALLS - LAST_LOOK - 8 && same) {
            one();
        }
        while (called < CALLS - LAST_LOOK && same) {
            peek(random.nextInt(2), random.nextInt(128));
        }
        lookAtAll();
    }

    private void answer(String name, int a, int b, int c, long got, long want) {
        called++;
        if (same) {
            calls.append("\n").append(name).append(' ').append(a).append(' ').append(b).append(' ').append(c);
            calls.append(" = ").append(got);
        }
        if (got != want) {
            calls.append(", due is ").append(want);
            same = false;
        }
    }

    private int of(int... choices) {
        return choices[random.nextInt(choices.length)];
    }

    private int guest() {
        return random.nextInt(60) == 0 ? of(ODD) : random.nextInt(2);
    }

    private int index(int bound) {
        return random.nextInt(40) == 0 ? of(ODD) : random.nextInt(bound);
    }

    private int value() {
        return switch (random.nextInt(6)) {
            case 0 -> random.nextInt();
            case 1 -> of(ODD);
            case 2 -> tableWord();
            case 3 -> instruction();
            default -> random.nextInt(256);
        };
    }

    private int tableWord() {
        int bits = of(1, 1, 1, 3, 7, 9, 11, 15, 15, 15, 17, 19, 23, 25, 27, 31, 31, 5, 13, 14, 47, 79, 111);
        int page = random.nextInt(12) == 0 ? random.nextInt(16) : random.nextInt(8);
        if ((bits & 10) != 0 && random.nextBoolean()) {
            page = of(0, 4);
        }
        return bits | page << 8 | (random.nextInt(10) == 0 ? random.nextInt() << 12 | 128 : 0);
    }

    private int instruction() {
        int op = switch (random.nextInt(6)) {
            case 0, 1 -> of(10, 11);
            case 2 -> of(17, 18, 19, 20, 20, 21, 22, 22, 23, 24);
            default -> random.nextInt(32);
        };
        int i = switch (op) {
            case 19, 20, 21 -> of(0, 0, 1, 2, 3, 4, 5, 6, 7, 7, 8, 9, 9, 10, 11, 11, 11, 12, -1);
            case 11 -> random.nextBoolean() ? of(TABLE_WORDS) : random.nextInt(256);
            case 12, 13, 14, 15 -> random.nextInt(9) - 3;
            default -> random.nextInt(12) == 0 ? random.nextInt() >> 16 : random.nextInt(128);
        };
        int a = random.nextInt(4) == 0 ? random.nextInt(8) : 0;
        return Check.op(op, random.nextInt(8), a, random.nextInt(8), i);
    }

    /** Tables at the pages 2 and 3, code elsewhere, as often as not with translation on. */
    private void layOut(int g) {
        for (int p = 0; p < 128; p++) {
            boolean table = (p >> 4 == 2 || p >> 4 == 3) && (p & 15) < 4;
            if (table || p < 32 || random.nextInt(5) == 0) {
                int w = table ? tableWord() : instruction();
                if (p >> 4 == 2 && table && random.nextInt(4) != 0) {
                    w = p == 32 ? 15 : of(15, 31, 31, 1 + 3 * 256, 1 + 3 * 256, 1 + 2 * 256, 15 + 4 * 256);
                }
                poke(g, p, w);
            }
        }
        command(g, 1, random.nextInt(random.nextInt(8) == 0 ? 64 : 32));
        command(g, 6, of(130, 130, 130, 131, 2, 0));
        for (int k = 5; k < 8; k++) {
            give(g, k, of(15, 31, 15, 1 + 3 * 256));
        }
        command(g, 7, random.nextInt(4));
        command(g, 9, random.nextInt(60));
        input(g, random.nextInt(30), value());
    }

    private void one() {
        int g = guest();
        switch (random.nextInt(20)) {
            case 0 -> poke(g, index(128), value());
            case 1 -> poke(g, of(TABLE_WORDS), random.nextInt(3) == 0 ? tableWord() : of(15, 31, 1 + 3 * 256));
            case 2 -> give(g, index(8), value());
            case 3 -> rarer(g);
            case 4 -> command(g, of(0, 7, 9), random.nextInt(64));
            case 5, 14, 15 -> place(g, random.nextInt(8) == 0 ? value() : random.nextInt(256), random.nextBoolean());
            case 6 -> input(g, random.nextInt(10) == 0 ? of(ODD) : random.nextInt(150), value());
            case 7, 8, 9, 10, 11, 12 -> run(random.nextInt(40) == 0 ? of(ODD) : 1 + random.nextInt(5));
            case 13 -> run(1 + random.nextInt(64));
            default -> look(g);
        }
    }

    /** What breaks most of what is laid out, so that it must not come too often. */
    private void rarer(int g) {
        switch (random.nextInt(4)) {
            case 0 -> command(g, index(12), value());
            case 1 -> command(g, 1, random.nextInt(64));
            default -> command(g, 6, of(random.nextInt(256), 128 + random.nextInt(16), 130, 130, 130));
        }
    }

    private void poke(int g, int p, int w) {
        answer("poke", g, p, w, host.poke(g, p, w), model.poke(g, p, w));
    }

    private void give(int g, int k, int v) {
        answer("give", g, k, v, host.give(g, k, v) ? 1 : 0, model.give(g, k, v) ? 1 : 0);
    }

    private void command(int g, int k, int v) {
        answer("command", g, k, v, host.command(g, k, v) ? 1 : 0, model.command(g, k, v) ? 1 : 0);
    }

    private void place(int g, int address, boolean user) {
        boolean got = host.place(g, address, user);
        answer("place", g, address, user ? 1 : 0, got ? 1 : 0, model.place(g, address, user) ? 1 : 0);
    }

    private void input(int g, int time, int value) {
        answer("input", g, time, value, host.input(g, time, value) ? 1 : 0, model.input(g, time, value) ? 1 : 0);
    }

    private void run(int n) {
        answer("run", n, 0, 0, host.run(n), model.run(n));
        answer("turn", 0, 0, 0, host.turn(), model.turn());
        for (int g = 0; g < 2; g++) {
            control(g, of(0, 3, 4, 8, 10));
            place(g);
        }
    }

    private void look(int g) {
        switch (random.nextInt(6)) {
            case 0 -> shadow(g, index(16));
            case 1 -> traced(g, index(8));
            case 2 -> count(g, index(9));
            case 3 -> register(g, index(8));
            case 4 -> control(g, index(12));
            default -> peek(g, index(128));
        }
    }

    private void lookAtAll() {
        answer("turn", 0, 0, 0, host.turn(), model.turn());
        for (int g = 0; g < 2; g++) {
            place(g);
            for (int k = 0; k < 16; k++) {
                shadow(g, k);
            }
            for (int k = 0; k < 12; k++) {
                control(g, k);
            }
            for (int k = 0; k < 9; k++) {
                count(g, k);
            }
            for (int k = 0; k < 8; k++) {
                register(g, k);
                traced(g, k);
            }
        }
    }

    private void peek(int g, int p) {
        answer("peek", g, p, 0, host.peek(g, p), model.peek(g, p));
    }

    private void register(int g, int k) {
        answer("register", g, k, 0, host.register(g, k), model.register(g, k));
    }

    private void control(int g, int k) {
        answer("control", g, k, 0, host.control(g, k), model.control(g, k));
    }

    private void place(int g) {
        answer("pc", g, 0, 0, host.pc(g), model.pc(g));
        answer("user", g, 0, 0, host.user(g) ? 1 : 0, model.user(g) ? 1 : 0);
    }

    private void shadow(int g, int v) {
        answer("shadow", g, v, 0, host.shadow(g, v), model.shadow(g, v));
    }

    private void traced(int g, int p) {
        answer("traced", g, p, 0, host.traced(g, p) ? 1 : 0, model.traced(g, p) ? 1 : 0);
    }

    private void count(int g, int kind) {
        answer("count", g, kind, 0, host.count(g, kind), model.count(g, kind));
    }
}
