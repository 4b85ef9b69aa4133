/** UPCALLS: queued, DONE, lost; and YIELD. */
public final class UpcallTest {
    private static final int HANDLER = Script.HANDLER;

    public static void main(String[] args) {
        yield0();
        yieldedIsDoneAtOnce();
        fourAtMost();
        asQueued();
        functionZero();
        functionNotOwn();
        queueOfWhatEnds();
        alarmOfWhatEnds();
        Check.done();
    }

    private static void yield0() {
        new Script("YIELD")
            .call(0, 0, 5, 6, 7, 0)
            .look(0, GrantKernel.READY).look(9, 0)
            .ok2(0, 0, 1, 2, 0, HANDLER, 55)
            .ok(2, 2, 1, 2, 0)
            .then(k -> k.press(2, true)).look(5, 1).look(0, GrantKernel.READY).look(9, 0)
            .call(0, 3, 5, 6, 7, 2, 1, 0, 55)
            .look(0, GrantKernel.READY).look(5, 0).look(9, 1)
            .then(k -> Check.due("x1 is where PC went on to", k.register(0, 1), 24 + 4 * 4 * Program.CALL_WORDS))
            .then(k -> Check.due("PC is the function", k.register(0, 32), HANDLER))
            .play();
    }

    private static void yieldedIsDoneAtOnce() {
        int on = 24 + 4 * 3 * Program.CALL_WORDS;
        new Script("YIELDED")
            .ok2(0, 0, 1, 2, 0, HANDLER, 55)
            .ok(2, 2, 1, 2, 0)
            .call(0, -1, 5, 6, 7)
            .look(0, GrantKernel.YIELDED).look(9, 0)
            .then(k -> Check.due("PC went on", k.register(0, 32), on))
            .then(k -> Check.due("run(5) YIELDED", k.run(5), 0))
            .then(k -> k.press(1, true)).look(0, GrantKernel.YIELDED)
            .then(k -> k.tick(3)).look(0, GrantKernel.YIELDED)
            .then(k -> k.press(2, true)).look(0, GrantKernel.READY).look(5, 0).look(9, 1)
            .then(k -> {
                int[] due = {2, 1, 0, 55};
                for (int i = 0; i < 4; i++) {
                    Check.due("x" + (10 + i), k.register(0, 10 + i), due[i]);
                }
                Check.due("x1", k.register(0, 1), on);
                Check.due("PC", k.register(0, 32), HANDLER);
            })
            .then(k -> k.press(2, false)).look(5, 1).look(9, 1)
            .upcall(2, 0, 0, 55)
            .look(9, 2)
            .play();
    }

    private static void fourAtMost() {
        new Script("four at most")
            .ok2(0, 0, 1, 2, 0, HANDLER, 1)
            .ok(2, 2, 1, 0, 0).ok(2, 2, 1, 1, 0).ok(2, 2, 1, 2, 0).ok(2, 2, 1, 3, 0)
            .then(k -> {
                for (int b = 0; b < 4; b++) {
                    k.press(b, true);
                    Check.due("queued", k.look(0, 5), b + 1);
                    Check.due("lost", k.look(0, 8), 0);
                }
                k.press(3, false);
                k.press(2, false);
            })
            .look(5, 4).look(8, 2)
            .upcall(0, 1, 0, 1)
            .then(k -> k.press(0, false)).look(5, 4).look(8, 2)
            .upcall(1, 1, 0, 1).upcall(2, 1, 0, 1).upcall(3, 1, 0, 1).upcall(0, 0, 0, 1)
            .look(9, 5)
            .noUpcall()
            .look(9, 5)
            .play();
    }

    /** What is queued keeps the function and data that were subscribed then. */
    private static void asQueued() {
        new Script("as queued")
            .ok2(0, 0, 1, 2, 0, HANDLER, 1)
            .ok(2, 2, 1, 0, 0)
            .then(k -> k.press(0, true))
            .ok2(HANDLER, 1, 1, 2, 0, HANDLER, 2)
            .then(k -> k.press(0, false))
            .ok2(HANDLER, 2, 1, 2, 0, 0, 0)
            .then(k -> k.press(0, true))
            .look(5, 2).look(8, 0)
            .upcall(0, 1, 0, 1)
            .upcall(0, 0, 0, 2)
            .noUpcall()
            .play();
    }

    private static void functionZero() {
        new Script("function 0")
            .ok2(0, 0, 1, 2, 0, 0, 9)
            .ok(2, 2, 1, 0, 0)
            .then(k -> {
                for (int i = 0; i < 6; i++) {
                    k.press(0, i % 2 == 0);
                }
            })
            .look(5, 0).look(8, 0)
            .call(0, 1, 0, 0, 0)
            .then(k -> k.press(0, true)).look(0, GrantKernel.YIELDED)
            .play();
    }

    private static void functionNotOwn() {
        int[] functions = {2, 4096, -1, 24 + 1, 24 + 2};
        for (int f : functions) {
            Program p = new Program().need(128).call(1, 2, 0, f, 0).call(2, 2, 1, 0, 0).call(0, 1, 0, 0, 0);
            GrantKernel k = Program.booted(0, 50, p);
            k.run(1);
            k.press(0, true);
            Check.due("PC is the function", k.register(0, 32), f);
            Check.due("READY", k.look(0, 0), GrantKernel.READY);
            Check.due("run(5)", k.run(5), 1);
            Check.due("FAULTED", k.look(0, 0), GrantKernel.FAULTED);
            Check.due("PC stays", k.register(0, 32), f);
        }
    }

    /** STARTS again with nothing queued. */
    private static void queueOfWhatEnds() {
        Program p = new Program().need(128).call(1, 2, 0, 20, 0).call(2, 2, 1, 0, 0).call(6, 1, 0, 0, 0);
        GrantKernel k = Program.booted(0, 22, p);
        k.run(1);
        k.press(0, true);
        Check.due("queued", k.look(0, 5), 1);
        k.run(1);
        Check.due("STARTED", k.look(0, 6), 2);
        Check.due("nothing queued", k.look(0, 5), 0);
        k.press(0, false);
        Check.due("nothing wanted", k.look(0, 5), 0);
        k.ways(0, 11);
        k.run(1);
        Check.due("nothing was subscribed: x11", k.register(0, 11), 0);
        Check.due("nothing was subscribed: x10", k.register(0, 10), 130);
        k.press(0, true);
        Check.due("subscribed again, but nothing wanted", k.look(0, 5), 0);
    }

    private static void alarmOfWhatEnds() {
        Program p = new Program().need(128).call(1, 0, 0, 20, 0).call(2, 0, 2, 3, 0).call(6, 1, 0, 0, 0);
        GrantKernel k = Program.booted(0, 33, p);
        k.run(1);
        k.ways(0, 11);
        k.run(1);
        k.tick(5);
        Check.due("subscribed again, but no alarm", k.look(0, 5), 0);
    }
}
