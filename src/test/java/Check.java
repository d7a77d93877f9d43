import java.util.function.Consumer;
import java.util.function.Supplier;

/** What the tests share: answers compared with what is due, and words of instructions. */
final class Check {
    private static int asked = 0;
    private static int wrong = 0;
    private static String sentence = "";

    private Check() { }

    /** The words of the document that the answers after this are about. */
    static void sentence(String words) {
        sentence = "\"" + words + "\": ";
    }

    static void due(String what, long got, long want) {
        asked++;
        if (got != want) {
            wrong++;
            System.out.println(sentence + what + " answered " + got + ", due is " + want);
        }
    }

    static void due(String what, boolean got, boolean want) {
        due(what, got ? 1 : 0, want ? 1 : 0);
    }

    static void end() {
        System.out.println(asked + " answers, " + wrong + " of them wrong");
        if (wrong != 0 || asked == 0) {
            System.exit(1);
        }
    }

    static int op(int op, int d, int a, int b, int i) {
        return op | d << 5 | a << 8 | b << 11 | i << 16;
    }

    /**
     * Nothing that can be seen is changed by the calls, now or later: two objects that were made alike
     * stay alike. Each look has objects of its own, for an object serves for 512 calls.
     */
    static void changesNothing(String what, Supplier<TwinHost> make, Consumer<TwinHost> calls) {
        for (int later = 0; later < 4; later++) {
            TwinHost called = make.get();
            calls.accept(called);
            TwinHost left = make.get();
            for (int n = 0; n < later; n++) {
                int steps = n == 0 ? 1 : 40;
                due(what + ", later run", called.run(steps), left.run(steps));
            }
            due(what + " changes nothing, " + later + " runs later", state(called).equals(state(left)), true);
        }
    }

    /** All that the guests show, in one text, so that two moments can be compared: 367 calls. */
    static String state(TwinHost x) {
        StringBuilder all = new StringBuilder("turn " + x.turn());
        for (int g = 0; g < 2; g++) {
            all.append("\nguest ").append(g).append(" pc ").append(x.pc(g)).append(" user ").append(x.user(g));
            for (int k = 0; k < 8; k++) {
                all.append(" x").append(k).append('=').append(x.register(g, k));
                all.append(" traced").append(k).append('=').append(x.traced(g, k));
            }
            for (int k = 0; k < 12; k++) {
                all.append(" c").append(k).append('=').append(x.control(g, k));
            }
            for (int v = 0; v < 16; v++) {
                all.append(" s").append(v).append('=').append(x.shadow(g, v));
            }
            for (int k = 0; k < 9; k++) {
                all.append(" n").append(k).append('=').append(x.count(g, k));
            }
            for (int p = 0; p < 128; p++) {
                all.append(' ').append(x.peek(g, p));
            }
        }
        return all.toString();
    }
}
