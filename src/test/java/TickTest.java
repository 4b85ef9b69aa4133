/** Promise 7. */
public final class TickTest {
    public static void main(String[] args) {
        arguments();
        order();
        Check.done();
    }

    private static void arguments() {
        GrantKernel k = new GrantKernel();
        int[] wrong = {0, 61, -1, Integer.MIN_VALUE, Integer.MAX_VALUE};
        for (int n : wrong) {
            Check.thrown("tick(" + n + ") not booted", IllegalArgumentException.class, () -> k.tick(n));
        }
        Check.thrown("tick(1) not booted", IllegalStateException.class, () -> k.tick(1));
        k.boot();
        for (int n : wrong) {
            Check.thrown("tick(" + n + ")", IllegalArgumentException.class, () -> k.tick(n));
        }
        Check.due("count(2)", k.count(2), 0);
        Check.due("tick(1)", k.tick(1), 1);
        Check.due("tick(60)", k.tick(60), 61);
        Check.due("tick(2)", k.tick(2), 63);
        Check.due("count(2)", k.count(2), 63);
        k.halt();
        Check.thrown("tick(1) halted", IllegalStateException.class, () -> k.tick(1));
        Check.due("nothing was changed by that", k.count(2), 63);
    }

    /** Of an alarm and the end of a write in one TICK the alarm is first. */
    private static void order() {
        new Script("alarm before CONSOLE")
            .ok2(0, 0, 1, 1, 1, Script.HANDLER, 7)
            .ok2(0, 0, 1, 0, 0, Script.HANDLER, 8)
            .ok2(0, 0, 4, 1, 1, 20, 2)
            .ok(2, 1, 1, 2, 0)
            .ok1(2, 2, 0, 2, 2, 0)
            .then(k -> Check.due("tick(2)", k.tick(2), 2))
            .look(5, 2)
            .upcall(2, 2, 0, 8)
            .upcall(2, 0, 0, 7)
            .noUpcall()
            .play();
        new Script("YIELDED, the alarm is DONE and the other queued")
            .ok2(0, 0, 1, 1, 1, Script.HANDLER, 7)
            .ok2(0, 0, 1, 0, 0, Script.HANDLER, 8)
            .ok2(0, 0, 4, 1, 1, 20, 1)
            .ok(2, 1, 1, 1, 0)
            .ok1(1, 2, 0, 2, 1, 0)
            .call(0, 1, 0, 0, 0)
            .look(0, GrantKernel.YIELDED)
            .then(k -> k.tick(1))
            .look(0, GrantKernel.READY)
            .look(5, 1)
            .look(9, 1)
            .then(k -> Check.due("x13", k.register(0, 13), 8))
            .upcall(1, 0, 0, 7)
            .play();
    }
}
