/** Promise 6, and TURNS. */
public final class RunTest {
    public static void main(String[] args) {
        arguments();
        roundAbout();
        endsWhereNoneIsReady();
        turnEndsEarly();
        startsAgainEndsTurn();
        sliceAndTurns();
        noLongerReady();
        readyAgain();
        endsWithinRun();
        Check.done();
    }

    private static void arguments() {
        GrantKernel k = new GrantKernel();
        int[] wrong = {0, 61, -1, Integer.MIN_VALUE, Integer.MAX_VALUE};
        for (int n : wrong) {
            Check.thrown("run(" + n + ") not booted", IllegalArgumentException.class, () -> k.run(n));
        }
        Check.thrown("run(60) not booted", IllegalStateException.class, () -> k.run(60));
        new Program().loop().into(k, 0);
        k.boot();
        for (int n : wrong) {
            Check.thrown("run(" + n + ")", IllegalArgumentException.class, () -> k.run(n));
        }
        Check.due("nothing was done by that", k.count(1), 0);
        Check.due("no turn was had by that", k.count(6), -1);
        Check.due("run(1)", k.run(1), 8);
        Check.due("run(60)", k.run(60), 480);
        Check.due("count(1)", k.count(1), 488);
        GrantKernel none = new GrantKernel();
        none.boot();
        Check.due("run(60) with no PROCESS", none.run(60), 0);
    }

    /** Each PROCESS counts in x5. */
    private static Program counting() {
        return new Program().need(64).raw(Program.addi(5, 5, 1), Program.jal(0, -4));
    }

    private static void roundAbout() {
        Program sleeper = new Program().need(64).call(0, 1, 0, 0, 0).loop();
        GrantKernel k = Program.booted(0, 2, counting(), sleeper, counting());
        int[] last = {0, 1, 2, 0, 1, 2, 0, 1, 2, 0, 1, 2, 0, 1, 2, 0, 1, 2, 0, 2, 0, 2};
        for (int i = 0; i < last.length; i++) {
            int want = last[i] == 1 && i == 16 ? 1 : 2;
            Check.due("run(1), turn " + i, k.run(1), want);
            Check.due("count(6), turn " + i, k.count(6), last[i]);
        }
        Check.due("x5 of 0", k.register(0, 5), 8);
        Check.due("x5 of 2", k.register(2, 5), 8);
        Check.due("1 is YIELDED", k.look(1, 0), GrantKernel.YIELDED);
        GrantKernel alone = Program.booted(0, 3, counting());
        Check.due("alone it comes next behind itself", alone.run(5), 15);
    }

    private static void endsWhereNoneIsReady() {
        Program exits = new Program().need(64).call(6, 0, 0, 0, 0).loop();
        Program faults = new Program().need(64).raw(0);
        GrantKernel k = Program.booted(0, 50, exits, faults);
        Check.due("run(60)", k.run(60), 11 + 1);
        Check.due("count(1)", k.count(1), 12);
        Check.due("count(6)", k.count(6), 1);
        Check.due("run(60) again", k.run(60), 0);
        Check.due("count(6) stays", k.count(6), 1);
        Check.due("0", k.look(0, 0), GrantKernel.STOPPED);
        Check.due("1", k.look(1, 0), GrantKernel.FAULTED);
    }

    private static void turnEndsEarly() {
        Program yields = new Program().need(64).call(0, 7, 0, 0, 0).loop();
        GrantKernel k = Program.booted(0, 50, yields, counting());
        Check.due("run(2)", k.run(2), 11 + 50);
        Check.due("run(3)", k.run(3), 150);
        Check.due("count(6)", k.count(6), 1);
    }

    private static void startsAgainEndsTurn() {
        Program again = new Program().need(64).call(6, 1, 0, 0, 0);
        GrantKernel k = Program.booted(0, 50, again);
        Check.due("run(3) with EXIT 1", k.run(3), 33);
        Check.due("STARTED", k.look(0, 6), 4);
        Check.due("READY", k.look(0, 0), GrantKernel.READY);
        GrantKernel f = Program.booted(9, 50, new Program().need(64).raw(Program.addi(5, 5, 1), 0));
        Check.due("run(3) with FAULTS", f.run(3), 6);
        Check.due("STARTED", f.look(0, 6), 4);
        Check.due("x5 is 0 again", f.register(0, 5), 0);
        Check.due("PC at ENTRY", f.register(0, 32), 20);
        GrantKernel exact = Program.booted(0, 11, again, counting());
        Check.due("run(2)", exact.run(2), 22);
        Check.due("the other had its turn", exact.register(1, 5), 6);
    }

    /** SLICE 1 and 50, n 1 and 60. */
    private static void sliceAndTurns() {
        int[] slices = {1, 2, 49, 50};
        int[] turns = {1, 2, 59, 60};
        for (int slice : slices) {
            for (int n : turns) {
                GrantKernel k = Program.booted(0, slice, counting(), counting());
                Check.due("run(" + n + ") with SLICE " + slice, k.run(n), slice * n);
                Check.due("count(1)", k.count(1), slice * n);
                Check.due("count(6)", k.count(6), (n - 1) % 2);
            }
        }
    }

    /** A turn ends as soon as the PROCESS is no longer READY, also with the last instruction of its SLICE. */
    private static void noLongerReady() {
        int[][] ends = {{0, 1}, {6, 0}, {6, 1}};
        int[] stands = {GrantKernel.YIELDED, GrantKernel.STOPPED, GrantKernel.READY};
        for (int i = 0; i < ends.length; i++) {
            for (int slice = 10; slice <= 12; slice++) {
                Program p = new Program().need(64).call(ends[i][0], ends[i][1], 0, 0, 0).loop();
                GrantKernel k = Program.booted(0, slice, p, counting());
                String name = " of class " + ends[i][0] + " " + ends[i][1] + " with SLICE " + slice;
                Check.due("run(1)" + name, k.run(1), Math.min(slice, 11));
                Check.due("stands" + name, k.look(0, 0), slice < 11 ? GrantKernel.READY : stands[i]);
                Check.due("system calls" + name, k.look(0, 10), slice < 11 ? 0 : 1);
                Check.due("the other's turn" + name, k.run(1), slice);
                Check.due("count(6)" + name, k.count(6), 1);
            }
        }
    }

    /** One that is READY again comes next behind the last that had a turn. */
    private static void readyAgain() {
        Program sleeper = new Program().need(128).call(1, 2, 0, 20, 0).call(2, 2, 1, 0, 0).call(0, 1, 0, 0, 0).loop();
        GrantKernel k = Program.booted(0, 33, counting(), sleeper, counting());
        k.run(3);
        Check.due("1 sleeps", k.look(1, 0), GrantKernel.YIELDED);
        int[] asleep = {0, 2, 0};
        for (int want : asleep) {
            k.run(1);
            Check.due("the turn is of", k.count(6), want);
        }
        k.press(0, true);
        int[] awake = {1, 2, 0};
        k.ways(0, 1);
        for (int want : awake) {
            k.run(1);
            Check.due("the turn is of", k.count(6), want);
        }
    }

    /** 'it ends where none is READY': the turns that are left are not had. */
    private static void endsWithinRun() {
        Program yields = new Program().need(64).call(0, 1, 0, 0, 0);
        GrantKernel k = Program.booted(9, 50, yields, new Program().need(64).raw(0));
        Check.due("run(60)", k.run(60), 11 + 10);
        Check.due("run(1)", k.run(1), 0);
        Check.due("count(1)", k.count(1), 21);
        Check.due("count(6)", k.count(6), 1);
        k.tick(60);
        k.press(0, true);
        Check.due("run(60) again", k.run(60), 0);
        Check.due("0 is YIELDED", k.look(0, 0), GrantKernel.YIELDED);
    }
}
