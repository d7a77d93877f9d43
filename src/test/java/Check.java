/** What the tests share: answers compared with what is due, and words of instructions. */
final class Check {
    private static int asked = 0;
    private static int wrong = 0;

    private Check() { }

    static void due(String what, long got, long want) {
        asked++;
        if (got != want) {
            wrong++;
            System.out.println(what + " answered " + got + ", due is " + want);
        }
    }

    static void due(String what, boolean got, boolean want) {
        due(what, got ? 1 : 0, want ? 1 : 0);
    }

    static void end() {
        System.out.println(asked + " answers, " + wrong + " of them wrong");
        if (wrong != 0 || asked == 0) {
            System.exit(1);
        }
    }

    static int op(int op, int d, int a, int b, int i) {
        return op | d << 5 | a << 8 | b << 11 | i << 16;
    }

    /** All that a guest shows, in one text, so that two moments can be compared. */
    static String state(TwinHost x) {
        StringBuilder all = new StringBuilder("turn " + x.turn());
        for (int g = 0; g < 2; g++) {
            all.append("\nguest ").append(g).append(" pc ").append(x.pc(g)).append(" user ").append(x.user(g));
            for (int k = 0; k < 8; k++) {
                all.append(" x").append(k).append('=').append(x.register(g, k));
                all.append(" traced").append(k).append('=').append(x.traced(g, k));
            }
            for (int k = 0; k < 12; k++) {
                all.append(" c").append(k).append('=').append(x.control(g, k));
            }
            for (int v = 0; v < 16; v++) {
                all.append(" s").append(v).append('=').append(x.shadow(g, v));
            }
            for (int k = 0; k < 9; k++) {
                all.append(" n").append(k).append('=').append(x.count(g, k));
            }
            for (int p = 0; p < 128; p++) {
                all.append(' ').append(x.peek(g, p));
            }
        }
        return all.toString();
    }
}
