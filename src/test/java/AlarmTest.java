/** DRIVER 0. */
public final class AlarmTest {
    private static final int HANDLER = Script.HANDLER;

    public static void main(String[] args) {
        commands();
        rings();
        farAway();
        byProcesses();
        Check.done();
    }

    private static void commands() {
        new Script("ALARM")
            .ok(2, 0, 0, 5, 6)
            .ok1(0, 2, 0, 1, 5, 6)
            .no(3, 2, 0, 3, 5, 6)
            .then(k -> k.tick(7))
            .ok1(7, 2, 0, 1, 5, 6)
            .ok1(10, 2, 0, 2, 3, 6)
            .ok(2, 0, 3, 5, 6)
            .no(3, 2, 0, 3, 5, 6)
            .ok1(8, 2, 0, 2, 0, 6)
            .ok(2, 0, 3, 5, 6)
            .ok1(8, 2, 0, 2, 1, 6)
            .then(k -> k.tick(1))
            .no(3, 2, 0, 3, 5, 6)
            .no(10, 2, 0, 4, 5, 6)
            .no(10, 2, 0, -1, 5, 6)
            .play();
    }

    private static void rings() {
        new Script("an alarm rings")
            .ok1(1, 2, 0, 2, 1, 0)
            .then(k -> k.tick(1)).look(5, 0)
            .ok2(0, 0, 1, 0, 1, HANDLER, 6)
            .ok1(2, 2, 0, 2, 1, 0)
            .then(k -> k.tick(1)).look(5, 0)
            .ok2(0, 0, 1, 0, 0, HANDLER, 7)
            .ok1(5, 2, 0, 2, 3, 0)
            .then(k -> k.tick(2)).look(5, 0)
            .then(k -> k.tick(1)).look(5, 1)
            .then(k -> k.tick(9)).look(5, 1)
            .upcall(5, 5, 0, 7)
            .ok1(19, 2, 0, 2, 5, 0)
            .ok1(16, 2, 0, 2, 2, 0)
            .then(k -> k.tick(2)).look(5, 1)
            .then(k -> k.tick(9)).look(5, 1)
            .upcall(16, 16, 0, 7)
            .ok1(26, 2, 0, 2, 1, 0)
            .ok1(30, 2, 0, 2, 5, 0)
            .then(k -> k.tick(4)).look(5, 0)
            .then(k -> k.tick(1)).look(5, 1)
            .upcall(30, 30, 0, 7)
            .noUpcall()
            .play();
    }

    /** As a number without sign, so that -1 is far away and not long ago. */
    private static void farAway() {
        new Script("far away")
            .ok2(0, 0, 1, 0, 0, HANDLER, 7)
            .then(k -> k.tick(60))
            .ok1(59, 2, 0, 2, -1, 0)
            .then(k -> k.tick(60)).look(5, 0)
            .ok1(Integer.MIN_VALUE + 120, 2, 0, 2, Integer.MIN_VALUE, 0)
            .then(k -> k.tick(60)).look(5, 0)
            .ok(2, 0, 3, 0, 0)
            .ok1(65, 2, 0, 2, 65 - 180, 0)
            .then(k -> k.tick(60)).look(5, 0)
            .ok(2, 0, 3, 0, 0)
            .play();
    }

    private static void byProcesses() {
        Program[] all = new Program[3];
        int header = 0;
        for (int i = 0; i < 3; i++) {
            all[i] = new Program().need(128).call(1, 0, 0, header + 20, 40 + i).call(2, 0, 2, 2 + i % 2, 0)
                .call(0, 1, 0, 0, 0);
            header += 4 * all[i].size();
        }
        GrantKernel k = Program.booted(0, 50, all);
        k.run(3);
        k.tick(2);
        int[] stands = {GrantKernel.READY, GrantKernel.YIELDED, GrantKernel.READY};
        for (int i = 0; i < 3; i++) {
            Check.due("behind TICK 2: " + i, k.look(i, 0), stands[i]);
        }
        k.tick(1);
        Check.due("behind TICK 3: 1", k.look(1, 0), GrantKernel.READY);
        Check.due("x10 of 1", k.register(1, 10), 3);
        Check.due("x13 of 1", k.register(1, 13), 41);
        Check.due("x13 of 2", k.register(2, 13), 42);
    }
}
