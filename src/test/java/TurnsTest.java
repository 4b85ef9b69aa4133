/**
 * TURNS that go round about among PROCESSES of which some are not READY, over several calls of run, with SLICE and
 * POLICY changed by ways between them.
 */
public final class TurnsTest {
    public static void main(String[] args) {
        someAreNotReady();
        sliceBetweenRuns();
        onlyOneIsReady();
        wokenBehindAndBefore();
        allEnd();
        manyTurnsAreOneByOne();
        Check.done();
    }

    /** x5 is half the instructions it did, rounded up. */
    private static Program counting() {
        return new Program().need(64).raw(Program.addi(5, 5, 1), Program.jal(0, -4));
    }

    /** Three instructions, then one that FAULTS. */
    private static Program faulting() {
        return new Program().need(64).raw(Program.addi(5, 5, 1), Program.addi(5, 5, 1), Program.addi(5, 5, 1), 0);
    }

    /** Six instructions to SUBSCRIBE, then again and again six for an alarm in four TICKS, six to YIELD, one back. */
    private static Program sleeping(int header) {
        Program p = new Program().need(128).raw(Program.addi(6, 6, 1), Program.jalr(0, 1, 0)).entryHere();
        return p.ask(1, 0, 0, header + 20, 0).ask(2, 0, 2, 4, 0).ask(0, 1, 0, 0, 0).raw(Program.jal(0, -48));
    }

    private static void run(GrantKernel k, int n, int due, int last) {
        Check.due("run(" + n + ")", k.run(n), due);
        Check.due("count(6) behind run(" + n + ")", k.count(6), last);
    }

    private static void someAreNotReady() {
        Program first = counting();
        GrantKernel k = Program.booted(1, 7, first, sleeping(4 * first.size()), faulting(), counting());
        run(k, 1, 7, 0);
        // 1 does 7 of 18, 2 FAULTS with its fourth and STARTS again, which ends its turn, 3 does 7
        run(k, 3, 7 + 4 + 7, 3);
        Check.due("2 STARTED", k.look(2, 6), 2);
        k.ways(1, 12);
        // 1 YIELDS with its 18th
        run(k, 2, 12 + 11, 1);
        Check.due("1 is YIELDED", k.look(1, 0), GrantKernel.YIELDED);
        // the POLICY is not above 1 any more
        run(k, 1, 4, 2);
        Check.due("2 is FAULTED", k.look(2, 0), GrantKernel.FAULTED);
        run(k, 2, 24, 0);
        run(k, 1, 12, 3);
        run(k, 1, 12, 0);
        k.tick(3);
        run(k, 1, 12, 3);
        k.tick(1);
        Check.due("1 is READY", k.look(1, 0), GrantKernel.READY);
        run(k, 1, 12, 0);
        // 2 of the handler, 1 back, 6 for the alarm, 3 of the 6 to YIELD
        run(k, 1, 12, 1);
        Check.due("x6 of 1", k.register(1, 6), 1);
        k.ways(1, 1);
        // 3, 0, 1 three times, then 1 is YIELDED and 51 turns are of 3 and 0
        run(k, 60, 60, 3);
        Check.due("1 is YIELDED again", k.look(1, 0), GrantKernel.YIELDED);
        Check.due("x5 of 0", k.register(0, 5), (7 + 12 + 12 + 12 + 12 + 3 + 25 + 1) / 2);
        Check.due("x5 of 3", k.register(3, 5), (7 + 12 + 12 + 12 + 3 + 26 + 1) / 2);
        Check.due("system calls of 1", k.look(1, 10), 5);
        Check.due("instructions", k.count(1), 7 + 18 + 23 + 4 + 24 + 12 + 12 + 12 + 12 + 12 + 60);
    }

    /** A SLICE is what ways told last; a turn that was had is not gone on with. */
    private static void sliceBetweenRuns() {
        GrantKernel k = Program.booted(0, 8, counting(), counting(), counting());
        int[] slices = {8, 1, 50, 3, 3, 17, 2, 49};
        int[] turns = {1, 2, 4, 1, 5, 60, 7, 2};
        int[] last = {0, 2, 0, 1, 0, 0, 1, 0};
        int[] did = new int[3];
        int next = 0;
        for (int i = 0; i < slices.length; i++) {
            k.ways(0, slices[i]);
            run(k, turns[i], slices[i] * turns[i], last[i]);
            for (int turn = 0; turn < turns[i]; turn++) {
                did[next] += slices[i];
                next = (next + 1) % 3;
            }
            for (int p = 0; p < 3; p++) {
                Check.due("x5 of " + p + " behind run " + i, k.register(p, 5), (did[p] + 1) / 2);
            }
            Check.due("ways out of range", k.ways(0, 51) || k.ways(10, 4) || k.ways(-1, 4) || k.ways(0, 0), false);
        }
    }

    /** It comes next behind itself, wherever it stands. */
    private static void onlyOneIsReady() {
        for (int ready = 0; ready < 4; ready++) {
            Program[] all = new Program[4];
            for (int p = 0; p < 4; p++) {
                all[p] = p == ready ? counting() : p % 2 == 0 ? faulting() : new Program().need(64).ask(6, 0, 0, 0, 0);
            }
            GrantKernel k = Program.booted(0, 10, all);
            int others = 0;
            for (int p = 0; p < 4; p++) {
                others += p == ready ? 0 : p % 2 == 0 ? 4 : 6;
            }
            run(k, 4, others + 10, 3);
            for (int i = 0; i < 3; i++) {
                run(k, 1, 10, ready);
            }
            run(k, 60, 600, ready);
        }
    }

    /** READY again by an UPCALL: its turn comes where it stands, not where it slept or was woken. */
    private static void wokenBehindAndBefore() {
        Program[] all = new Program[4];
        int header = 0;
        for (int p = 0; p < 4; p++) {
            Program sleeper = new Program().need(128).raw(Program.jalr(0, 1, 0)).entryHere()
                .ask(1, 2, 0, header + 20, 0).ask(2, 2, 1, p, 0).ask(0, 1, 0, 0, 0);
            all[p] = sleeper.raw(Program.jal(0, -24));
            header += 4 * all[p].size();
        }
        GrantKernel k = Program.booted(0, 50, all);
        run(k, 60, 4 * 18, 3);
        k.press(2, true);
        k.press(0, true);
        // jalr, jal and six to YIELD again
        run(k, 1, 8, 0);
        k.press(1, true);
        run(k, 1, 8, 1);
        k.press(0, false);
        k.press(3, true);
        run(k, 1, 8, 2);
        run(k, 1, 8, 3);
        run(k, 1, 8, 0);
        run(k, 1, 0, 0);
        k.press(0, true);
        k.press(3, false);
        run(k, 1, 8, 3);
        run(k, 60, 8, 0);
        run(k, 60, 0, 0);
        k.ways(0, 1);
        k.press(1, false);
        k.press(3, true);
        int[] last = {1, 3, 1, 3, 1, 3, 1, 3, 1, 3, 1, 3, 1, 3, 1, 3};
        for (int want : last) {
            run(k, 1, 1, want);
        }
        run(k, 1, 0, 3);
    }

    /** The turns that are left are not had; FAULTS with a POLICY go on as long as it lasts. */
    private static void allEnd() {
        GrantKernel k = Program.booted(3, 50, faulting(), new Program().need(64).ask(6, 0, 0, 0, 0), faulting());
        run(k, 3, 4 + 6 + 4, 2);
        run(k, 1, 4, 0);
        k.ways(1, 50);
        // 2 has been started anew once, 0 twice
        run(k, 1, 4, 2);
        Check.due("2 is FAULTED", k.look(2, 0), GrantKernel.FAULTED);
        Check.due("2 STARTED", k.look(2, 6), 2);
        k.ways(3, 2);
        run(k, 2, 4, 0);
        Check.due("0 STARTED", k.look(0, 6), 4);
        run(k, 60, 4, 0);
        Check.due("0 is FAULTED", k.look(0, 0), GrantKernel.FAULTED);
        Check.due("0 STARTED in all", k.look(0, 6), 4);
        Check.due("FAULTS of 0", k.look(0, 7), 4);
        run(k, 60, 0, 0);
    }

    /** run(n) is run(1) n times. */
    private static void manyTurnsAreOneByOne() {
        for (int slice = 1; slice <= 50; slice++) {
            Program first = faulting();
            Program[] all = {first, sleeping(4 * first.size()), counting()};
            GrantKernel many = Program.booted(9, slice, all);
            GrantKernel single = Program.booted(9, slice, all);
            int sum = 0;
            for (int i = 0; i < 60; i++) {
                sum += single.run(1);
            }
            Check.due("run(60) with SLICE " + slice, many.run(60), sum);
            Check.due("the same state with SLICE " + slice, new Snapshot(single).isOf(many), true);
        }
    }
}
