/** Promise 13: turn, and the turns that run gives. */
public final class TurnTest {
    public static void main(String[] args) {
        rowsGoOnAcrossRuns();
        trapsAreSteps();
        stallEndsTheTurn();
        stallAtTheEndSwitchesOnce();
        otherCallsLeaveTheTurn();
        Check.end();
    }

    private static void rowsGoOnAcrossRuns() {
        TwinHost x = new TwinHost(3);
        int[] runs = {2, 2, 1, 5, 3, 1};
        int[] turns = {0, 1, 1, 1, 0, 0};
        int[] first = {2, 3, 3, 6, 7, 8};
        for (int n = 0; n < runs.length; n++) {
            Check.due("run", x.run(runs[n]), runs[n]);
            Check.due("turn after run " + n, x.turn(), turns[n]);
            Check.due("steps of guest 0 after run " + n, x.count(0, 8), first[n]);
        }
        Check.due("steps of guest 1", x.count(1, 8), 6);
        Check.due("switches of guest 0", x.count(0, 7), 2);
        Check.due("switches of guest 1", x.count(1, 7), 2);
    }

    private static void trapsAreSteps() {
        TwinHost x = new TwinHost(2);
        x.poke(0, 0, 18);
        Check.due("run", x.run(2), 0);
        Check.due("turn", x.turn(), 1);
        x.command(0, 0, 1);
        x.command(0, 7, 1);
        x.command(0, 9, 0);
        x.run(2);
        Check.due("turn", x.turn(), 0);
        Check.due("interrupt, then trap", x.run(2), 0);
        Check.due("interrupts", x.count(0, 6), 1);
        Check.due("turn", x.turn(), 1);
    }

    private static void stallEndsTheTurn() {
        TwinHost x = new TwinHost(4);
        x.poke(0, 1, 24);
        Check.due("one, then a stall", x.run(2), 1);
        Check.due("turn", x.turn(), 1);
        Check.due("all of guest 1", x.run(4), 4);
        Check.due("turn", x.turn(), 0);
        Check.due("a stall", x.run(1), 0);
        Check.due("turn", x.turn(), 1);
        Check.due("guest 1 has its whole row", x.run(3), 3);
        Check.due("turn", x.turn(), 1);
        x.run(1);
        Check.due("turn", x.turn(), 0);
        Check.due("switches of guest 0", x.count(0, 7), 2);
        Check.due("switches of guest 1", x.count(1, 7), 2);
        TwinHost y = new TwinHost(4);
        y.poke(0, 0, 24);
        y.poke(1, 0, 24);
        Check.due("both stall", y.run(7), 0);
        Check.due("turn", y.turn(), 1);
        Check.due("steps of guest 0", y.count(0, 8), 4);
        Check.due("steps of guest 1", y.count(1, 8), 3);
    }

    private static void stallAtTheEndSwitchesOnce() {
        TwinHost x = new TwinHost(2);
        x.poke(0, 1, 24);
        Check.due("run", x.run(2), 1);
        Check.due("turn", x.turn(), 1);
        Check.due("switches", x.count(0, 7), 1);
        Check.due("switches back", x.count(1, 7), 0);
        TwinHost y = new TwinHost(1);
        y.poke(0, 0, 24);
        Check.due("run", y.run(3), 1);
        Check.due("switches", y.count(0, 7), 2);
        Check.due("turn", y.turn(), 1);
    }

    private static void otherCallsLeaveTheTurn() {
        TwinHost x = new TwinHost(2);
        x.run(1);
        x.place(0, 0, true);
        x.command(0, 6, 0);
        x.poke(0, 0, 0);
        x.give(0, 1, 1);
        x.input(0, 0, 0);
        x.run(0);
        x.run(65);
        Check.due("turn", x.turn(), 0);
        x.run(1);
        Check.due("turn", x.turn(), 1);
    }
}
