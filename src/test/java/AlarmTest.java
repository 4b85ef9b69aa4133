/** DRIVER 0. */
public final class AlarmTest {
    private static final int HANDLER = Script.HANDLER;

    public static void main(String[] args) {
        commands();
        rings();
        farAway();
        byProcesses();
        cancelled();
        edgesOfC();
        instead();
        eachItsOwn();
        manyInOneTick();
        Check.done();
    }

    private static void commands() {
        new Script("ALARM")
            .ok(2, 0, 0, 5, 6)
            .ok1(0, 2, 0, 1, 5, 6)
            .no(3, 2, 0, 3, 5, 6)
            .then(k -> k.tick(7))
            .ok1(7, 2, 0, 1, 5, 6)
            .ok1(10, 2, 0, 2, 3, 6)
            .ok(2, 0, 3, 5, 6)
            .no(3, 2, 0, 3, 5, 6)
            .ok1(8, 2, 0, 2, 0, 6)
            .ok(2, 0, 3, 5, 6)
            .ok1(8, 2, 0, 2, 1, 6)
            .then(k -> k.tick(1))
            .no(3, 2, 0, 3, 5, 6)
            .no(10, 2, 0, 4, 5, 6)
            .no(10, 2, 0, -1, 5, 6)
            .play();
    }

    private static void rings() {
        new Script("an alarm rings")
            .ok1(1, 2, 0, 2, 1, 0)
            .then(k -> k.tick(1)).look(5, 0)
            .ok2(0, 0, 1, 0, 1, HANDLER, 6)
            .ok1(2, 2, 0, 2, 1, 0)
            .then(k -> k.tick(1)).look(5, 0)
            .ok2(0, 0, 1, 0, 0, HANDLER, 7)
            .ok1(5, 2, 0, 2, 3, 0)
            .then(k -> k.tick(2)).look(5, 0)
            .then(k -> k.tick(1)).look(5, 1)
            .then(k -> k.tick(9)).look(5, 1)
            .upcall(5, 5, 0, 7)
            .ok1(19, 2, 0, 2, 5, 0)
            .ok1(16, 2, 0, 2, 2, 0)
            .then(k -> k.tick(2)).look(5, 1)
            .then(k -> k.tick(9)).look(5, 1)
            .upcall(16, 16, 0, 7)
            .ok1(26, 2, 0, 2, 1, 0)
            .ok1(30, 2, 0, 2, 5, 0)
            .then(k -> k.tick(4)).look(5, 0)
            .then(k -> k.tick(1)).look(5, 1)
            .upcall(30, 30, 0, 7)
            .noUpcall()
            .play();
    }

    /** As a number without sign, so that -1 is far away and not long ago. */
    private static void farAway() {
        new Script("far away")
            .ok2(0, 0, 1, 0, 0, HANDLER, 7)
            .then(k -> k.tick(60))
            .ok1(59, 2, 0, 2, -1, 0)
            .then(k -> k.tick(60)).look(5, 0)
            .ok1(Integer.MIN_VALUE + 120, 2, 0, 2, Integer.MIN_VALUE, 0)
            .then(k -> k.tick(60)).look(5, 0)
            .ok(2, 0, 3, 0, 0)
            .ok1(65, 2, 0, 2, 65 - 180, 0)
            .then(k -> k.tick(60)).look(5, 0)
            .ok(2, 0, 3, 0, 0)
            .play();
    }

    private static void byProcesses() {
        Program[] all = new Program[3];
        int header = 0;
        for (int i = 0; i < 3; i++) {
            all[i] = new Program().need(128).call(1, 0, 0, header + 20, 40 + i).call(2, 0, 2, 2 + i % 2, 0)
                .call(0, 1, 0, 0, 0);
            header += 4 * all[i].size();
        }
        GrantKernel k = Program.booted(0, 50, all);
        k.run(3);
        k.tick(2);
        int[] stands = {GrantKernel.READY, GrantKernel.YIELDED, GrantKernel.READY};
        for (int i = 0; i < 3; i++) {
            Check.due("behind TICK 2: " + i, k.look(i, 0), stands[i]);
        }
        k.tick(1);
        Check.due("behind TICK 3: 1", k.look(1, 0), GrantKernel.READY);
        Check.due("x10 of 1", k.register(1, 10), 3);
        Check.due("x13 of 1", k.register(1, 13), 41);
        Check.due("x13 of 2", k.register(2, 13), 42);
    }

    /** ALARM 3: none; its TICK comes and nothing happens. */
    private static void cancelled() {
        new Script("an alarm that is taken back")
            .ok2(0, 0, 1, 0, 0, HANDLER, 7)
            .ok1(2, 2, 0, 2, 2, 0)
            .then(k -> k.tick(1))
            .ok(2, 0, 3, 0, 0)
            .then(k -> k.tick(9)).look(5, 0).look(8, 0)
            .no(3, 2, 0, 3, 0, 0)
            .ok1(11, 2, 0, 2, 1, 0)
            .then(k -> k.tick(1)).look(5, 1)
            .no(3, 2, 0, 3, 0, 0).look(5, 1)
            .upcall(11, 11, 0, 7)
            .play();
    }

    /** ALARM 2: c as a number without sign, 0 counts as 1. */
    private static void edgesOfC() {
        int[] soon = {0, 1, 2, 59, 60};
        for (int c : soon) {
            int due = Math.max(c, 1);
            new Script("an alarm for " + c)
                .ok2(0, 0, 1, 0, 0, HANDLER, 7)
                .then(k -> k.tick(60))
                .ok1(60 + due, 2, 0, 2, c, 9)
                .then(k -> {
                    if (due > 1) {
                        k.tick(due - 1);
                    }
                })
                .look(5, 0)
                .then(k -> k.tick(1)).look(5, 1)
                .then(k -> k.tick(60)).look(5, 1)
                .upcall(60 + due, 60 + due, 0, 7)
                .play();
        }
        int[] never = {-1, -2, -60, Integer.MIN_VALUE, Integer.MIN_VALUE + 1, Integer.MAX_VALUE, 100_000};
        for (int c : never) {
            new Script("an alarm for " + c)
                .ok2(0, 0, 1, 0, 0, HANDLER, 7)
                .then(k -> k.tick(60))
                .ok1(60 + c, 2, 0, 2, c, 9)
                .then(k -> {
                    for (int i = 0; i < 20; i++) {
                        k.tick(60);
                    }
                })
                .look(5, 0).look(8, 0)
                .ok(2, 0, 3, 0, 0)
                .play();
        }
    }

    /** ALARM 2: instead of one that is set, be it sooner, later or at the same TICK. */
    private static void instead() {
        int[][] both = {{1, 3}, {3, 1}, {2, 2}, {-1, 2}, {0, 5}};
        for (int[] b : both) {
            int due = Math.max(1, b[1]);
            new Script("an alarm for " + b[1] + " instead of " + b[0])
                .ok2(0, 0, 1, 0, 0, HANDLER, 7)
                .ok1(b[0] == 0 ? 1 : b[0], 2, 0, 2, b[0], 0)
                .ok1(due, 2, 0, 2, b[1], 0)
                .then(k -> k.tick(9)).look(5, 1)
                .upcall(due, due, 0, 7)
                .noUpcall()
                .no(3, 2, 0, 3, 0, 0)
                .play();
        }
    }

    /** One PROCESS has no alarm of another's: NO 3, and that one rings. */
    private static void eachItsOwn() {
        Program first = new Program().need(128).call(1, 0, 0, 20, 5).call(2, 0, 2, 2, 0).loop();
        Program second = new Program().need(128).call(0, 0, 0, 0, 0).call(2, 0, 3, 8, 8).call(2, 0, 2, 1, 0).loop();
        GrantKernel k = Program.booted(0, Program.CALL_WORDS, first, second);
        k.run(4);
        Check.due("the second has none: x10", k.register(1, 10), 0);
        Check.due("the second has none: x11", k.register(1, 11), 3);
        k.run(2);
        Check.due("the second's is for 1: x10", k.register(1, 10), 129);
        Check.due("the second's is for 1: x11", k.register(1, 11), 1);
        k.tick(1);
        Check.due("the first's does not ring", k.look(0, 5), 0);
        k.tick(1);
        Check.due("the first's rings", k.look(0, 5), 1);
        Check.due("the second has no function", k.look(1, 5), 0);
    }

    /** In tick(n) an alarm tells its own TICK, not the last. */
    private static void manyInOneTick() {
        new Script("an alarm within tick(60)")
            .ok2(0, 0, 1, 0, 0, HANDLER, 7)
            .ok1(5, 2, 0, 2, 5, 0)
            .then(k -> Check.due("tick(60)", k.tick(60), 60))
            .upcall(5, 5, 0, 7)
            .ok1(60, 2, 0, 1, 0, 0)
            .play();
    }
}
