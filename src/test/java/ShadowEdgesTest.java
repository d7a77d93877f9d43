/** Shadow entries, traced pages, dropped entries and flushes, sentence by sentence, from none to all of them. */
public final class ShadowEdgesTest {
    private static final int V = Lab.V;
    private static final int R = Lab.R;
    private static final int W = Lab.W;
    private static final int X = Lab.X;
    private static final int U = Lab.U;
    private static final int A = Lab.A;
    private static final int D = Lab.D;

    public static void main(String[] args) {
        whatAnEntryShows();
        inPlaceOfTheOneItHad();
        goesThroughIfAllowed();
        whereItGoesThrough();
        storeNeedsD();
        entriesOutliveTheirRights();
        noneAndAll();
        tracedFromFirstToLastWord();
        tracedUntilTheLastEntryGoes();
        storeBesideTheWords();
        storeAtFirstAndSecondWords();
        mostThatOneWordDrops();
        tracedAfterTheFill();
        storeThatFaultsIsNone();
        bitsOfAWalkDropNothing();
        flushIsNoDrop();
        pokeDropsAndIsNoTracedStore();
        pokeOfTheSameWord();
        guestsAreApart();
        Check.end();
    }

    private static void whatAnEntryShows() {
        Check.sentence("its page + 8 * (2 if R, + 4 if W, + 8 if X, + 16 if U) + 512 if D was on");
        int[] leaves = {R, X, R | W, R | X, R | W | X};
        for (int bits : leaves) {
            for (int more = 0; more < 8; more++) {
                boolean user = (more & 1) != 0;
                int leaf = V | bits | (user ? U : 0) | ((more & 2) != 0 ? A : 0) | ((more & 4) != 0 ? D : 0);
                for (int page = 0; page < 8; page += 7) {
                    TwinHost x = Lab.paged(user, false);
                    x.poke(0, 32, Lab.entry(V, 3));
                    x.poke(0, 49, Lab.entry(leaf, page));
                    Lab.access(x, (bits & R) != 0 ? Lab.LOAD : Lab.FETCH, 21);
                    int due = page + 8 * (bits + (user ? 16 : 0)) + ((leaf & D) != 0 ? 512 : 0);
                    Check.due("leaf " + leaf + " page " + page, x.shadow(0, 1), due);
                }
            }
        }
    }

    /** Two ways to page 5, through the words 33 and 48 and the words 34 and 48. */
    private static TwinHost shared(int leaf) {
        TwinHost x = Lab.paged(false, false);
        x.poke(0, 33, Lab.entry(V, 3));
        x.poke(0, 34, Lab.entry(V, 3));
        x.poke(0, 48, Lab.entry(leaf, 5));
        return x;
    }

    private static void inPlaceOfTheOneItHad() {
        Check.sentence("the virtual page gets a SHADOW ENTRY, in place of the one that it had");
        TwinHost x = shared(V | R | W);
        Lab.access(x, Lab.LOAD, 64);
        Check.due("without D", x.shadow(0, 4), 5 + 8 * 6);
        Lab.access(x, Lab.STORE, 64);
        Check.due("with D", x.shadow(0, 4), 5 + 8 * 6 + 512);
        Check.due("fills", x.count(0, 1), 3);
        Check.due("dropped", x.count(0, 4), 0);
        x.poke(0, 48, 0);
        Check.due("there was one entry, not two", x.count(0, 4), 1);
    }

    private static void goesThroughIfAllowed() {
        Check.sentence("An access GOES THROUGH with a shadow entry, if it is allowed with its bits");
        TwinHost x = shared(V | R);
        Lab.access(x, Lab.LOAD, 64);
        Lab.access(x, Lab.LOAD, 79);
        Check.due("a load goes through", x.count(0, 1), 2);
        Lab.faults(x, Lab.STORE, 64, 15, "a store");
        Lab.faults(x, Lab.FETCH, 64, 12, "a fetch");
        Check.due("the entry stays", x.shadow(0, 4), 5 + 8 * 2);
        Check.due("dropped", x.count(0, 4), 0);
        x.place(0, 64, true);
        Check.due("not in U", x.run(1), 0);
        Check.due("CAUSE", x.control(0, 3), 12);
    }

    private static void whereItGoesThrough() {
        Check.sentence("It is then at the word (v & 15) of the entry's page.");
        int leaf = V | R | W | X;
        int[] within = {0, 1, 15};
        for (int n : within) {
            TwinHost x = shared(leaf | D);
            Lab.access(x, Lab.LOAD, 72);
            int fills = x.count(0, 1);
            x.poke(0, 80 + n, Check.op(0, 4, 0, 0, 44 + n));
            Check.due("fetch at " + (64 + n), Lab.access(x, Lab.FETCH, 64 + n), 1);
            Check.due("x4", x.register(0, 4), 44 + n);
            Check.due("load at " + (64 + n), Lab.access(x, Lab.LOAD, 64 + n), 1);
            Check.due("x3", x.register(0, 3), Check.op(0, 4, 0, 0, 44 + n));
            Check.due("store at " + (64 + n), Lab.access(x, Lab.STORE, 64 + n), 1);
            for (int p = 80; p < 96; p++) {
                Check.due("word " + p, x.peek(0, p), p == 80 + n ? Lab.DATA : 0);
            }
            Check.due("all went through", x.count(0, 1), fills);
        }
    }

    private static void storeNeedsD() {
        Check.sentence("and, for a store, D was on in it");
        TwinHost clean = shared(V | R | W | A);
        Lab.access(clean, Lab.LOAD, 64);
        Lab.access(clean, Lab.STORE, 65);
        Check.due("D off: a walk", clean.count(0, 1), 3);
        Check.due("D in the leaf", clean.peek(0, 48), Lab.entry(V | R | W | A | D, 5));
        Lab.access(clean, Lab.STORE, 66);
        Lab.access(clean, Lab.LOAD, 67);
        Check.due("D on: no walk", clean.count(0, 1), 3);
        TwinHost dirty = shared(V | R | W | D);
        Lab.access(dirty, Lab.LOAD, 64);
        Lab.access(dirty, Lab.STORE, 65);
        Check.due("D was on in the leaf", dirty.count(0, 1), 2);
        TwinHost two = shared(V | R | W);
        Lab.access(two, Lab.LOAD, 64);
        Lab.access(two, Lab.STORE, 128);
        Check.due("D on in the leaf by another entry", two.shadow(0, 8), 5 + 8 * 6 + 512);
        Check.due("is not on in this one", two.shadow(0, 4), 5 + 8 * 6);
        Check.due("fills", two.count(0, 1), 3);
        Lab.access(two, Lab.STORE, 64);
        Check.due("so its store walks", two.count(0, 1), 4);
    }

    private static void entriesOutliveTheirRights() {
        Check.sentence("if that has no shadow entry with which the access GOES THROUGH, there is a WALK");
        TwinHost x = Lab.paged(true, false);
        x.poke(0, 34, Lab.entry(V | X, 4));
        x.poke(0, 32, Lab.entry(V | R | W | U, 4));
        Lab.access(x, Lab.LOAD, 21);
        int had = x.shadow(0, 1);
        x.place(0, 176, false);
        Check.due("S without SUM walks and faults", x.run(1), 0);
        Check.due("CAUSE", x.control(0, 3), 13);
        Check.due("the entry stays", x.shadow(0, 1), had);
        int fills = x.count(0, 1);
        x.command(0, 0, 8);
        x.place(0, 176, false);
        Check.due("S with SUM", x.run(1), 1);
        Check.due("goes through", x.count(0, 1), fills);
    }

    /** Large leaves at all four first words, and code in each page that goes to the next one. */
    private static TwinHost filled() {
        TwinHost x = new TwinHost(16);
        for (int n = 0; n < 4; n++) {
            x.poke(0, 32 + n, Lab.entry(V | R | X, n % 2 * 4));
        }
        for (int page = 0; page < 8; page++) {
            x.poke(0, page * 16 + 15, Check.op(15, 0, 0, 0, 16));
        }
        x.command(0, 6, 130);
        x.place(0, 15, false);
        return x;
    }

    private static void noneAndAll() {
        Check.sentence("A FLUSH takes all shadow entries away; these are not counted as dropped.");
        TwinHost x = filled();
        for (int done = 0; done <= 16; done++) {
            for (int v = 0; v < 16; v++) {
                Check.due("entry " + v + " after " + done, x.shadow(0, v), v < done ? v % 8 + 8 * 10 : -1);
            }
            if (done < 16) {
                Check.due("step " + done, x.run(1), 1);
            }
        }
        Check.due("fills", x.count(0, 1), 16);
        x.command(0, 6, 130);
        for (int v = 0; v < 16; v++) {
            Check.due("entry " + v + " after the flush", x.shadow(0, v), -1);
        }
        Check.due("dropped", x.count(0, 4), 0);
        Check.due("flushes", x.count(0, 5), 2);
        Check.due("traced", x.traced(0, 2), false);
    }

    private static void tracedFromFirstToLastWord() {
        Check.sentence("TRACED if the first or the second word of some shadow entry of the guest lies in it.");
        for (int table = 0; table < 8; table++) {
            for (int below = 0; below < 8; below++) {
                TwinHost x = new TwinHost(16);
                int first = table == below ? 3 : 0;
                x.poke(0, table * 16 + first, Lab.entry(V, below));
                x.poke(0, below * 16 + 2, Lab.entry(V | X, 0));
                x.poke(0, 15, 0);
                x.command(0, 6, 128 + table);
                x.place(0, first * 64 + 32 + 15, false);
                Check.due("fetch through " + table + " and " + below, x.run(1), 1);
                for (int page = 0; page < 8; page++) {
                    Check.due("traced " + page, x.traced(0, page), page == table || page == below);
                }
            }
        }
    }

    private static void tracedUntilTheLastEntryGoes() {
        Check.sentence("the first or the second word of some shadow entry of the guest lies in it");
        TwinHost x = shared(V | R);
        x.poke(0, 49, Lab.entry(V | R, 6));
        Check.due("not before a fill", x.traced(0, 3), false);
        Lab.access(x, Lab.LOAD, 64);
        Lab.access(x, Lab.LOAD, 80);
        Check.due("after it", x.traced(0, 3), true);
        x.poke(0, 48, 0);
        Check.due("one is left", x.traced(0, 3), true);
        x.poke(0, 49, 0);
        Check.due("none is left", x.traced(0, 3), false);
        Check.due("the code's entry is", x.traced(0, 2), true);
        x.poke(0, 35, x.peek(0, 35));
        Check.due("nor that", x.traced(0, 2), false);
    }

    /** As shared(), and the address 176 + n is word n of the page 3, where the second words lie. */
    private static TwinHost writable() {
        TwinHost x = shared(V | R | W);
        x.poke(0, 51, Lab.entry(V | R | W | D, 3));
        Lab.access(x, Lab.LOAD, 64);
        Lab.access(x, Lab.LOAD, 128);
        Lab.access(x, Lab.LOAD, 191);
        Check.due("fills", x.count(0, 1), 4);
        return x;
    }

    private static void counted(TwinHost x, int tracedStores, int dropped) {
        Check.due("traced stores", x.count(0, 3), tracedStores);
        Check.due("dropped", x.count(0, 4), dropped);
    }

    private static void storeBesideTheWords() {
        Check.sentence("A store in a page that is traced (after the fill, if there was one) is a TRACED store");
        TwinHost x = writable();
        int[] beside = {176 + 1, 176 + 2, 176 + 15};
        for (int n = 0; n < beside.length; n++) {
            Check.due("store at " + beside[n], Lab.access(x, Lab.STORE, beside[n]), 1);
            Check.due("word", x.peek(0, beside[n] - 176 + 48), Lab.DATA);
            counted(x, n + 1, 0);
        }
        Check.due("a store in a page that is not traced", Lab.access(x, Lab.STORE, 64), 1);
        counted(x, 3, 0);
    }

    private static void storeAtFirstAndSecondWords() {
        Check.sentence("the word is stored, then all shadow entries whose first or second word it is are DROPPED");
        TwinHost x = writable();
        Check.due("store at the second word of two", Lab.access(x, Lab.STORE, 176), 1);
        counted(x, 1, 2);
        Check.due("one is gone", x.shadow(0, 4), -1);
        Check.due("two are gone", x.shadow(0, 8), -1);
        Check.due("its own entry stays", x.shadow(0, 11), 3 + 8 * 6 + 512);
        Check.due("the code's entry stays", x.shadow(0, 15), 7 + 8 * 8);
        Check.due("the word", x.peek(0, 48), Lab.DATA);
        Check.due("the same again", Lab.access(x, Lab.STORE, 176), 1);
        counted(x, 2, 2);
        Check.due("store at its own leaf", Lab.access(x, Lab.STORE, 179), 1);
        counted(x, 3, 3);
        Check.due("its own entry is gone", x.shadow(0, 11), -1);
        Lab.faults(x, Lab.STORE, 179, 15, "the next one finds no leaf");
        counted(x, 3, 3);
        TwinHost y = writable();
        y.poke(0, 48, Lab.entry(V | R | W | D, 2));
        Lab.access(y, Lab.LOAD, 64);
        Check.due("poked away, and filled again", y.count(0, 1), 5);
        Check.due("store at the first word of two", Lab.access(y, Lab.STORE, 66), 1);
        counted(y, 1, 3);
        Check.due("its entry is gone", y.shadow(0, 11), -1);
        Check.due("the entry that it went through stays", y.shadow(0, 4), 2 + 8 * 6 + 512);
    }

    /** The table is its own second page, so that word 33 is first word of four entries and second of two. */
    private static void mostThatOneWordDrops() {
        Check.sentence("all shadow entries whose first or second word it is are DROPPED");
        TwinHost x = Lab.paged(false, false);
        x.poke(0, 32, Lab.entry(V, 2));
        x.poke(0, 33, Lab.entry(V | R | W, 4));
        x.poke(0, 34, Lab.entry(V, 2));
        int[] pages = {1, 4, 5, 6, 7, 9};
        for (int v : pages) {
            Check.due("load in page " + v, Lab.access(x, Lab.LOAD, v * 16), 1);
        }
        Check.due("fills", x.count(0, 1), 7);
        x.poke(0, 33, 0);
        Check.due("dropped", x.count(0, 4), 6);
        for (int v = 0; v < 16; v++) {
            Check.due("entry " + v, x.shadow(0, v), v == 15 ? 7 + 8 * 8 : -1);
        }
    }

    private static void tracedAfterTheFill() {
        Check.sentence("A store in a page that is traced (after the fill, if there was one)");
        TwinHost x = shared(V | R | W);
        x.poke(0, 51, Lab.entry(V | R | W, 3));
        Check.due("page 3 is not traced", x.traced(0, 3), false);
        Check.due("the fill itself makes it so", Lab.access(x, Lab.STORE, 177), 1);
        counted(x, 1, 0);
        Check.due("the word", x.peek(0, 49), Lab.DATA);
        TwinHost own = shared(V | R | W);
        own.poke(0, 51, Lab.entry(V | R | W, 3));
        Check.due("at its own leaf", Lab.access(own, Lab.STORE, 179), 1);
        counted(own, 1, 1);
        Check.due("the word is what was stored", own.peek(0, 51), Lab.DATA);
        Check.due("the entry is gone", own.shadow(0, 11), -1);
        Check.due("it was a fill", own.count(0, 1), 2);
        Check.due("page 3 is traced no more", own.traced(0, 3), false);
    }

    private static void storeThatFaultsIsNone() {
        Check.sentence("nothing else is done, and nothing retires");
        TwinHost x = writable();
        x.poke(0, 51, Lab.entry(V | R, 3));
        Lab.access(x, Lab.LOAD, 176);
        int dropped = x.count(0, 4);
        Lab.faults(x, Lab.STORE, 176, 15, "a store without W");
        counted(x, 0, dropped);
        Check.due("the word", x.peek(0, 48), Lab.entry(V | R | W | A, 5));
        Check.due("the entry", x.shadow(0, 4), 5 + 8 * 6);
    }

    private static void bitsOfAWalkDropNothing() {
        Check.sentence("(That a walk puts A and D on in a leaf is no store and drops nothing.)");
        TwinHost x = shared(V | R | W);
        Lab.access(x, Lab.LOAD, 64);
        Lab.access(x, Lab.LOAD, 128);
        Lab.access(x, Lab.STORE, 64);
        counted(x, 0, 0);
        Check.due("the other entry", x.shadow(0, 8), 5 + 8 * 6);
        Check.due("the code's", x.shadow(0, 15), 7 + 8 * 8);
    }

    private static void flushIsNoDrop() {
        Check.sentence("23 FLUSH");
        TwinHost x = filled();
        x.run(4);
        x.poke(0, 15, 23);
        Check.due("four more entries", x.run(5), 5);
        Check.due("a flush after nine", x.count(0, 1), 9);
        Check.due("flushes", x.count(0, 5), 2);
        Check.due("PC", x.pc(0), 144);
        for (int v = 0; v < 16; v++) {
            Check.due("entry " + v, x.shadow(0, v), -1);
        }
        Check.due("dropped", x.count(0, 4), 0);
        TwinHost none = Lab.one(23, 0, 0);
        Check.due("a flush of nothing", none.run(1), 1);
        Check.due("is counted", none.count(0, 5), 1);
        Check.due("PC", none.pc(0), 11);
    }

    private static void pokeDropsAndIsNoTracedStore() {
        Check.sentence("shadow entries whose first or second word it is are dropped (and counted so; it is no traced store)");
        int[] words = {33, 34, 48, 51, 35, 32, 47, 49, 52};
        int[] dropped = {1, 2, 2, 1, 1, 0, 0, 0, 0};
        for (int n = 0; n < words.length; n++) {
            TwinHost x = writable();
            x.poke(0, words[n], 0);
            counted(x, 0, dropped[n]);
            Check.due("flushes", x.count(0, 5), 1);
        }
    }

    private static void pokeOfTheSameWord() {
        Check.sentence("becomes w, and shadow entries whose first or second word it is are dropped");
        TwinHost x = writable();
        int word = x.peek(0, 48);
        Check.due("the old word", x.poke(0, 48, word), word);
        counted(x, 0, 2);
        Check.due("again", x.poke(0, 48, word), word);
        counted(x, 0, 2);
    }

    private static void guestsAreApart() {
        Check.sentence("TRACED if the first or the second word of some shadow entry of the guest lies in it.");
        TwinHost x = writable();
        for (int p = 32; p < 64; p++) {
            x.poke(1, p, 9);
        }
        x.command(1, 6, 130);
        counted(x, 0, 0);
        Check.due("the entries of guest 0 stay", x.shadow(0, 4), 5 + 8 * 6);
        Check.due("guest 1 has none", x.shadow(1, 4), -1);
        Check.due("page 3 of guest 1", x.traced(1, 3), false);
        Check.due("dropped of guest 1", x.count(1, 4), 0);
        Check.due("flushes of guest 1", x.count(1, 5), 1);
    }
}
