import java.util.ArrayDeque;
import java.util.ArrayList;
import java.util.Deque;
import java.util.Iterator;
import java.util.List;
import java.util.Map;
import java.util.TreeMap;

/** The document once more, written for its plain sense alone, to compare long random runs with. */
final class Model {
    private static final class Trap extends Exception {
        private static final long serialVersionUID = 1;
        final int cause;
        final int tval;

        Trap(int cause, int tval) {
            super(null, null, false, false);
            this.cause = cause;
            this.tval = tval;
        }
    }

    private record Shadow(int page, String rights, boolean dirty, List<Integer> words) { }

    private record Waiting(int time, int value) { }

    private static final class Machine {
        final int[] memory = new int[128];
        final int[] x = new int[8];
        final int[] stored = new int[12];
        final long[] counts = new long[9];
        final Deque<Waiting> row = new ArrayDeque<>();
        final Map<Integer, Shadow> shadows = new TreeMap<>();
        boolean ie;
        boolean pie;
        boolean ps;
        boolean sum;
        boolean supervisor = true;
        int pc;
        int retired;

        boolean inputIsThere() {
            return !row.isEmpty() && row.peekFirst().time() <= retired;
        }

        int see(int k) {
            return switch (k) {
                case 0 -> (ie ? 1 : 0) + (pie ? 2 : 0) + (ps ? 4 : 0) + (sum ? 8 : 0);
                case 8 -> (retired >= stored[9] ? 1 : 0) + (inputIsThere() ? 2 : 0);
                case 10 -> retired;
                case 11 -> inputIsThere() ? row.peekFirst().value() : 0;
                default -> stored[k];
            };
        }

        void set(int k, int v) {
            if (k == 0) {
                ie = (v & 1) != 0;
                pie = (v & 2) != 0;
                ps = (v & 4) != 0;
                sum = (v & 8) != 0;
            } else if (k == 6) {
                stored[6] = v & 0x8F;
                flush();
            } else {
                stored[k] = k == 7 ? v & 3 : v;
            }
        }

        void flush() {
            shadows.clear();
            counts[5]++;
        }

        void drop(int word) {
            for (Iterator<Shadow> all = shadows.values().iterator(); all.hasNext();) {
                if (all.next().words().contains(word)) {
                    all.remove();
                    counts[4]++;
                }
            }
        }

        boolean traced(int page) {
            return shadows.values().stream().anyMatch(s -> s.words().stream().anyMatch(w -> w / 16 == page));
        }

        static String rightsOf(int word) {
            String names = "VRWXUAD";
            StringBuilder rights = new StringBuilder();
            for (int bit = 0; bit < names.length(); bit++) {
                if ((word >>> bit & 1) == 1) {
                    rights.append(names.charAt(bit));
                }
            }
            return rights.toString();
        }

        boolean allowed(String rights, char need) {
            if (rights.indexOf(need) < 0) {
                return false;
            }
            boolean u = rights.contains("U");
            return supervisor ? !u || sum && need != 'X' : u;
        }

        Trap outside(char need, int v) {
            return new Trap(need == 'X' ? 1 : need == 'R' ? 5 : 7, v);
        }

        Trap pageFault(char need, int v) {
            return new Trap(need == 'X' ? 12 : need == 'R' ? 13 : 15, v);
        }

        int locate(int v, char need) throws Trap {
            if (stored[6] < 128) {
                if (v < 0 || v > 127) {
                    throw outside(need, v);
                }
                return v;
            }
            if (v < 0 || v > 255) {
                throw pageFault(need, v);
            }
            Shadow has = shadows.get(v / 16);
            if (has == null || !allowed(has.rights(), need) || need == 'W' && !has.dirty()) {
                has = walked(v, need);
                shadows.put(v / 16, has);
                counts[1]++;
            }
            return has.page() * 16 + v % 16;
        }

        Shadow walked(int v, char need) throws Trap {
            int table = stored[6] % 16;
            if (table > 7) {
                throw outside(need, v);
            }
            List<Integer> words = new ArrayList<>();
            int at = table * 16 + v / 64;
            words.add(at);
            String rights = rightsOf(memory[at]);
            int number = (memory[at] >>> 8) % 16;
            if (!rights.contains("V") || rights.contains("W") && !rights.contains("R")) {
                throw pageFault(need, v);
            }
            if (rights.contains("R") || rights.contains("X")) {
                if (number != 0 && number != 4 && number != 8 && number != 12) {
                    throw pageFault(need, v);
                }
                number += v / 16 % 4;
            } else {
                if (number > 7) {
                    throw outside(need, v);
                }
                at = number * 16 + v / 16 % 4;
                words.add(at);
                rights = rightsOf(memory[at]);
                number = (memory[at] >>> 8) % 16;
                boolean noLeaf = !rights.contains("R") && !rights.contains("X");
                if (!rights.contains("V") || rights.contains("W") && !rights.contains("R") || noLeaf) {
                    throw pageFault(need, v);
                }
            }
            if (!allowed(rights, need)) {
                throw pageFault(need, v);
            }
            if (number > 7) {
                throw outside(need, v);
            }
            memory[at] |= need == 'W' ? 96 : 32;
            return new Shadow(number, rights, (memory[at] & 64) != 0, words);
        }

        /** Answers 1 if an instruction retired, 0 after a trap, -1 after a stall. */
        int step() {
            counts[8]++;
            try {
                int due = stored[7] & see(8);
                if ((!supervisor || ie) && due != 0) {
                    counts[6]++;
                    throw new Trap(due >= 2 ? 0x80000009 : 0x80000005, 0);
                }
                int w = memory[locate(pc, 'X')];
                int next = execute(w);
                if (next == pc && (w & 31) == 24) {
                    return -1;
                }
                retired++;
                pc = next;
                return 1;
            } catch (Trap trap) {
                if (List.of(1, 5, 7, 12, 13, 15).contains(trap.cause)) {
                    counts[2]++;
                }
                stored[2] = pc;
                stored[3] = trap.cause;
                stored[4] = trap.tval;
                pie = ie;
                ie = false;
                ps = supervisor;
                supervisor = true;
                pc = stored[1];
                return 0;
            }
        }

        int execute(int w) throws Trap {
            int op = w & 31;
            int d = (w >>> 5) % 8;
            int xa = x[(w >>> 8) % 8];
            int xb = x[(w >>> 11) % 8];
            int i = (short) (w >>> 16);
            if (op > 16) {
                counts[0]++;
            }
            Integer result = switch (op) {
                case 0 -> xa + i;
                case 1 -> xa + xb;
                case 2 -> xa - xb;
                case 3 -> xa & xb;
                case 4 -> xa | xb;
                case 5 -> xa ^ xb;
                case 6 -> xa < xb ? 1 : 0;
                case 7 -> xa << xb;
                case 8 -> xa >> xb;
                case 9 -> i * 65536;
                case 10 -> memory[locate(xa + i, 'R')];
                case 15, 16 -> pc + 1;
                default -> null;
            };
            int next = pc + 1;
            switch (op) {
                case 11 -> store(xa + i, xb);
                case 12 -> next = xa == xb ? pc + i : next;
                case 13 -> next = xa != xb ? pc + i : next;
                case 14 -> next = xa < xb ? pc + i : next;
                case 15 -> next = pc + i;
                case 16 -> next = xa + i;
                default -> next = op > 16 ? system(op, w) : next;
            }
            if (result != null && d != 0) {
                x[d] = result;
            }
            return next;
        }

        void store(int v, int w) throws Trap {
            int at = locate(v, 'W');
            boolean tracedStore = traced(at / 16);
            memory[at] = w;
            if (tracedStore) {
                counts[3]++;
                drop(at);
            }
        }

        int system(int op, int w) throws Trap {
            if (op == 17) {
                throw new Trap(supervisor ? 9 : 8, 0);
            }
            if (op == 18) {
                throw new Trap(3, 0);
            }
            if (!supervisor || op > 24) {
                throw new Trap(2, w);
            }
            if (op == 22) {
                ie = pie;
                pie = true;
                supervisor = ps;
                ps = false;
                return stored[2];
            }
            if (op == 23) {
                flush();
                return pc + 1;
            }
            if (op == 24) {
                return (stored[7] & see(8)) == 0 ? pc : pc + 1;
            }
            exchange(op, w);
            return pc + 1;
        }

        void exchange(int op, int w) throws Trap {
            int k = (short) (w >>> 16);
            int a = (w >>> 8) % 8;
            int d = (w >>> 5) % 8;
            boolean stores = op == 19 || a != 0;
            if (k < 0 || k > 11 || stores && (k == 8 || k == 10 || k == 11)) {
                throw new Trap(2, w);
            }
            int was = see(k);
            int given = x[a];
            if (k == 11 && inputIsThere()) {
                row.removeFirst();
            }
            if (stores) {
                set(k, op == 19 ? given : op == 20 ? was | given : was & ~given);
            }
            if (d != 0) {
                x[d] = was;
            }
        }
    }

    private final Machine[] machines = {new Machine(), new Machine()};
    private final int quantum;
    private int turn;
    private int inRow;

    Model(int quantum) {
        this.quantum = quantum < 1 || quantum > 16 ? 4 : quantum;
        machines[0].stored[9] = Integer.MAX_VALUE;
        machines[1].stored[9] = Integer.MAX_VALUE;
    }

    private static boolean in(int n, int bound) {
        return n >= 0 && n < bound;
    }

    int poke(int g, int p, int w) {
        if (!in(g, 2) || !in(p, 128)) {
            return 0;
        }
        int old = machines[g].memory[p];
        machines[g].memory[p] = w;
        machines[g].drop(p);
        return old;
    }

    int peek(int g, int p) {
        return in(g, 2) && in(p, 128) ? machines[g].memory[p] : 0;
    }

    boolean give(int g, int k, int v) {
        if (in(g, 2) && in(k, 8) && k != 0) {
            machines[g].x[k] = v;
        }
        return in(g, 2) && in(k, 8);
    }

    int register(int g, int k) {
        return in(g, 2) && in(k, 8) ? machines[g].x[k] : 0;
    }

    boolean command(int g, int k, int v) {
        if (!in(g, 2) || !in(k, 10) || k == 8) {
            return false;
        }
        machines[g].set(k, v);
        return true;
    }

    int control(int g, int k) {
        return in(g, 2) && in(k, 12) ? machines[g].see(k) : 0;
    }

    boolean place(int g, int address, boolean user) {
        if (in(g, 2)) {
            machines[g].pc = address;
            machines[g].supervisor = !user;
        }
        return in(g, 2);
    }

    int pc(int g) {
        return in(g, 2) ? machines[g].pc : 0;
    }

    boolean user(int g) {
        return in(g, 2) && !machines[g].supervisor;
    }

    boolean input(int g, int time, int value) {
        return in(g, 2) && time >= 0 && machines[g].row.size() < 6 && machines[g].row.add(new Waiting(time, value));
    }

    int run(int n) {
        if (n < 1 || n > 64) {
            return -1;
        }
        int retired = 0;
        for (int left = n; left > 0; left--) {
            int how = machines[turn].step();
            retired += how == 1 ? 1 : 0;
            inRow++;
            if (how == -1 || inRow == quantum) {
                machines[turn].counts[7]++;
                turn ^= 1;
                inRow = 0;
            }
        }
        return retired;
    }

    int turn() {
        return turn;
    }

    int shadow(int g, int v) {
        Shadow s = in(g, 2) ? machines[g].shadows.get(v) : null;
        if (s == null) {
            return -1;
        }
        String r = s.rights();
        int bits = (r.contains("R") ? 2 : 0) + (r.contains("W") ? 4 : 0) + (r.contains("X") ? 8 : 0)
            + (r.contains("U") ? 16 : 0);
        return s.page() + 8 * bits + (s.dirty() ? 512 : 0);
    }

    boolean traced(int g, int p) {
        return in(g, 2) && machines[g].traced(p);
    }

    int count(int g, int kind) {
        return in(g, 2) && in(kind, 9) ? (int) machines[g].counts[kind] : -1;
    }
}
