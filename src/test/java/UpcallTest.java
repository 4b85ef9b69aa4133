/** UPCALLS: queued, DONE, lost; and YIELD. */
public final class UpcallTest {
    private static final int HANDLER = Script.HANDLER;

    public static void main(String[] args) {
        yield0();
        yieldedIsDoneAtOnce();
        fourAtMost();
        asQueued();
        functionZero();
        functionNotOwn();
        queueOfWhatEnds();
        alarmOfWhatEnds();
        yieldWithAnyA();
        doneChangesNothingElse();
        fifthOfEachDriver();
        fromAllInOrder();
        functionTakenBack();
        eachNumberItsOwn();
        wakesByEachDriver();
        lostIsNotDone();
        fullWhileReadyOnly();
        Check.done();
    }

    private static void yield0() {
        new Script("YIELD")
            .call(0, 0, 5, 6, 7, 0)
            .look(0, GrantKernel.READY).look(9, 0)
            .ok2(0, 0, 1, 2, 0, HANDLER, 55)
            .ok(2, 2, 1, 2, 0)
            .then(k -> k.press(2, true)).look(5, 1).look(0, GrantKernel.READY).look(9, 0)
            .call(0, 3, 5, 6, 7, 2, 1, 0, 55)
            .look(0, GrantKernel.READY).look(5, 0).look(9, 1)
            .then(k -> Check.due("x1 is where PC went on to", k.register(0, 1), 24 + 4 * 4 * Program.CALL_WORDS))
            .then(k -> Check.due("PC is the function", k.register(0, 32), HANDLER))
            .play();
    }

    private static void yieldedIsDoneAtOnce() {
        int on = 24 + 4 * 3 * Program.CALL_WORDS;
        new Script("YIELDED")
            .ok2(0, 0, 1, 2, 0, HANDLER, 55)
            .ok(2, 2, 1, 2, 0)
            .call(0, -1, 5, 6, 7)
            .look(0, GrantKernel.YIELDED).look(9, 0)
            .then(k -> Check.due("PC went on", k.register(0, 32), on))
            .then(k -> Check.due("run(5) YIELDED", k.run(5), 0))
            .then(k -> k.press(1, true)).look(0, GrantKernel.YIELDED)
            .then(k -> k.tick(3)).look(0, GrantKernel.YIELDED)
            .then(k -> k.press(2, true)).look(0, GrantKernel.READY).look(5, 0).look(9, 1)
            .then(k -> {
                int[] due = {2, 1, 0, 55};
                for (int i = 0; i < 4; i++) {
                    Check.due("x" + (10 + i), k.register(0, 10 + i), due[i]);
                }
                Check.due("x1", k.register(0, 1), on);
                Check.due("PC", k.register(0, 32), HANDLER);
            })
            .then(k -> k.press(2, false)).look(5, 1).look(9, 1)
            .upcall(2, 0, 0, 55)
            .look(9, 2)
            .play();
    }

    private static void fourAtMost() {
        new Script("four at most")
            .ok2(0, 0, 1, 2, 0, HANDLER, 1)
            .ok(2, 2, 1, 0, 0).ok(2, 2, 1, 1, 0).ok(2, 2, 1, 2, 0).ok(2, 2, 1, 3, 0)
            .then(k -> {
                for (int b = 0; b < 4; b++) {
                    k.press(b, true);
                    Check.due("queued", k.look(0, 5), b + 1);
                    Check.due("lost", k.look(0, 8), 0);
                }
                k.press(3, false);
                k.press(2, false);
            })
            .look(5, 4).look(8, 2)
            .upcall(0, 1, 0, 1)
            .then(k -> k.press(0, false)).look(5, 4).look(8, 2)
            .upcall(1, 1, 0, 1).upcall(2, 1, 0, 1).upcall(3, 1, 0, 1).upcall(0, 0, 0, 1)
            .look(9, 5)
            .noUpcall()
            .look(9, 5)
            .play();
    }

    /** What is queued keeps the function and data that were subscribed then. */
    private static void asQueued() {
        new Script("as queued")
            .ok2(0, 0, 1, 2, 0, HANDLER, 1)
            .ok(2, 2, 1, 0, 0)
            .then(k -> k.press(0, true))
            .ok2(HANDLER, 1, 1, 2, 0, HANDLER, 2)
            .then(k -> k.press(0, false))
            .ok2(HANDLER, 2, 1, 2, 0, 0, 0)
            .then(k -> k.press(0, true))
            .look(5, 2).look(8, 0)
            .upcall(0, 1, 0, 1)
            .upcall(0, 0, 0, 2)
            .noUpcall()
            .play();
    }

    private static void functionZero() {
        new Script("function 0")
            .ok2(0, 0, 1, 2, 0, 0, 9)
            .ok(2, 2, 1, 0, 0)
            .then(k -> {
                for (int i = 0; i < 6; i++) {
                    k.press(0, i % 2 == 0);
                }
            })
            .look(5, 0).look(8, 0)
            .call(0, 1, 0, 0, 0)
            .then(k -> k.press(0, true)).look(0, GrantKernel.YIELDED)
            .play();
    }

    private static void functionNotOwn() {
        int[] functions = {2, 4096, -1, 24 + 1, 24 + 2};
        for (int f : functions) {
            Program p = new Program().need(128).call(1, 2, 0, f, 0).call(2, 2, 1, 0, 0).call(0, 1, 0, 0, 0);
            GrantKernel k = Program.booted(0, 50, p);
            k.run(1);
            k.press(0, true);
            Check.due("PC is the function", k.register(0, 32), f);
            Check.due("READY", k.look(0, 0), GrantKernel.READY);
            Check.due("run(5)", k.run(5), 1);
            Check.due("FAULTED", k.look(0, 0), GrantKernel.FAULTED);
            Check.due("PC stays", k.register(0, 32), f);
        }
    }

    /** STARTS again with nothing queued. */
    private static void queueOfWhatEnds() {
        Program p = new Program().need(128).call(1, 2, 0, 20, 0).call(2, 2, 1, 0, 0).call(6, 1, 0, 0, 0);
        GrantKernel k = Program.booted(0, 22, p);
        k.run(1);
        k.press(0, true);
        Check.due("queued", k.look(0, 5), 1);
        k.run(1);
        Check.due("STARTED", k.look(0, 6), 2);
        Check.due("nothing queued", k.look(0, 5), 0);
        k.press(0, false);
        Check.due("nothing wanted", k.look(0, 5), 0);
        k.ways(0, 11);
        k.run(1);
        Check.due("nothing was subscribed: x11", k.register(0, 11), 0);
        Check.due("nothing was subscribed: x10", k.register(0, 10), 130);
        k.press(0, true);
        Check.due("subscribed again, but nothing wanted", k.look(0, 5), 0);
    }

    private static void alarmOfWhatEnds() {
        Program p = new Program().need(128).call(1, 0, 0, 20, 0).call(2, 0, 2, 3, 0).call(6, 1, 0, 0, 0);
        GrantKernel k = Program.booted(0, 33, p);
        k.run(1);
        k.ways(0, 11);
        k.run(1);
        k.tick(5);
        Check.due("subscribed again, but no alarm", k.look(0, 5), 0);
    }

    /** YIELD: with a 0 x10 is 0, with another a it is YIELDED, whatever its sign. */
    private static void yieldWithAnyA() {
        int[] all = {0, 1, 2, -1, Integer.MIN_VALUE, Integer.MAX_VALUE, 256, 0x10000};
        for (int a : all) {
            new Script("YIELD " + a)
                .call(0, a, 5, 6, 7)
                .look(0, a == 0 ? GrantKernel.READY : GrantKernel.YIELDED)
                .look(5, 0).look(9, 0).look(10, 1)
                .play();
        }
    }

    /** DONE: x1, x10 to x13 and PC; other registers stay. */
    private static void doneChangesNothingElse() {
        for (int a = 0; a <= 1; a++) {
            Program p = new Program().need(256).call(1, 2, 0, -4, -5).call(2, 2, 1, 3, 0);
            for (int r = 1; r < 32; r++) {
                p.raw(Program.addi(r, 0, 100 + r));
            }
            p.call(0, a, 6, 7, 8);
            GrantKernel k = Program.booted(0, 50, p);
            k.run(1);
            if (a == 0) {
                k.press(3, true);
            }
            k.ways(0, 14);
            k.run(1);
            if (a == 1) {
                Check.due("YIELDED", k.look(0, 0), GrantKernel.YIELDED);
                k.press(3, true);
            }
            int[] due = new int[33];
            for (int r = 1; r < 32; r++) {
                due[r] = 100 + r;
            }
            due[1] = 4 * p.size();
            due[10] = 3;
            due[11] = 1;
            due[12] = 0;
            due[13] = -5;
            due[14] = 0;
            due[32] = -4;
            for (int r = 0; r <= 32; r++) {
                Check.due("register " + r + " behind an UPCALL, a " + a, k.register(0, r), due[r]);
            }
        }
    }

    /** Four of BUTTON 0 fill the queue. */
    private static void fill(GrantKernel k) {
        for (int i = 0; i < 4; i++) {
            k.press(0, i % 2 == 0);
        }
        Check.due("queued", k.look(0, 5), 4);
        Check.due("lost", k.look(0, 8), 0);
    }

    private static Script filled(String name) {
        return new Script(name)
            .ok2(0, 0, 1, 2, 0, HANDLER, 2).ok2(0, 0, 1, 0, 0, HANDLER, 1).ok2(0, 0, 1, 1, 1, HANDLER, 3)
            .ok(2, 2, 1, 0, 0);
    }

    private static Script emptied(Script s) {
        return s.upcall(0, 1, 0, 2).upcall(0, 0, 0, 2).upcall(0, 1, 0, 2).upcall(0, 0, 0, 2).noUpcall()
            .look(9, 4);
    }

    /** What would be a fifth is lost, whatever DRIVER it is of; the alarm and the write are over all the same. */
    private static void fifthOfEachDriver() {
        emptied(filled("a fifth of the ALARM").ok1(2, 2, 0, 2, 2, 0)
            .then(UpcallTest::fill)
            .then(k -> k.tick(1)).look(8, 0)
            .then(k -> k.tick(1)).look(5, 4).look(8, 1)
            .no(3, 2, 0, 3, 0, 0)).play();
        emptied(filled("a fifth of the CONSOLE").ok2(0, 0, 4, 1, 1, 20, 2).ok(2, 1, 1, 2, 0)
            .then(UpcallTest::fill)
            .then(k -> k.tick(1)).look(8, 0).count(4, 1)
            .then(k -> k.tick(1)).look(5, 4).look(8, 1).count(4, 0).count(3, 2)
            .then(k -> k.tick(5)).look(8, 1)).play();
        emptied(filled("a fifth of the CONSOLE at once")
            .then(UpcallTest::fill)
            .ok(2, 1, 1, 0, 0).look(5, 4).look(8, 1).count(4, 0)).play();
        emptied(filled("a fifth of the BUTTONS")
            .then(UpcallTest::fill)
            .then(k -> k.press(0, true)).look(5, 4).look(8, 1)
            .then(k -> k.press(1, true)).look(5, 4).look(8, 1)
            .then(k -> k.press(0, false)).look(5, 4).look(8, 2)).play();
    }

    /** The first one queued is the first one DONE, of whatever DRIVER. */
    private static void fromAllInOrder() {
        filled("from all in order").ok2(0, 0, 4, 1, 1, 20, 1)
            .ok1(1, 2, 0, 2, 1, 0)
            .then(k -> k.press(0, true))
            .ok(2, 1, 1, 1, 0)
            .then(k -> k.tick(1))
            .then(k -> k.press(0, false))
            .look(5, 4)
            .upcall(0, 1, 0, 2)
            .upcall(1, 1, 0, 1)
            .upcall(1, 0, 0, 3)
            .upcall(0, 0, 0, 2)
            .noUpcall()
            .play();
    }

    /** An UPCALL whose function is 0 again is not queued, and is not lost either. */
    private static void functionTakenBack() {
        filled("function taken back")
            .ok2(HANDLER, 2, 1, 2, 0, 0, 2).ok2(HANDLER, 1, 1, 0, 0, 0, 2).ok2(HANDLER, 3, 1, 1, 1, 0, 2)
            .ok1(1, 2, 0, 2, 1, 0)
            .then(k -> k.press(0, true))
            .then(k -> k.tick(1))
            .ok(2, 1, 1, 0, 0)
            .look(5, 0).look(8, 0)
            .no(3, 2, 0, 3, 0, 0)
            .ok2(0, 2, 1, 2, 0, HANDLER, 7)
            .look(5, 0)
            .then(k -> k.press(0, false)).look(5, 1)
            .upcall(0, 0, 0, 7)
            .play();
    }

    /** ALARM 0, CONSOLE 1, BUTTONS 0: the other number of each DRIVER gets none. */
    private static void eachNumberItsOwn() {
        new Script("the other numbers")
            .ok2(0, 0, 1, 0, 1, HANDLER, 1).ok2(0, 0, 1, 1, 0, HANDLER, 2).ok2(0, 0, 1, 2, 1, HANDLER, 3)
            .ok2(0, 0, 1, 3, 0, HANDLER, 4).ok2(0, 0, 1, 3, 1, HANDLER, 5)
            .ok2(0, 0, 4, 1, 1, 20, 1)
            .ok(2, 2, 1, 0, 0).ok1(1, 2, 0, 2, 1, 0).ok(2, 1, 1, 1, 0).ok(2, 3, 2, 1, 1)
            .then(k -> k.tick(1))
            .then(k -> k.press(0, true))
            .ok(2, 1, 1, 0, 0)
            .look(5, 0).look(8, 0).count(3, 1)
            .play();
    }

    private static void woken(GrantKernel k, int first, int second, int data) {
        int[] due = {first, second, 0, data};
        Check.due("READY", k.look(0, 0), GrantKernel.READY);
        Check.due("DONE", k.look(0, 9), 1);
        Check.due("queued", k.look(0, 5), 0);
        Check.due("PC", k.register(0, 32), HANDLER);
        for (int i = 0; i < 4; i++) {
            Check.due("x" + (10 + i), k.register(0, 10 + i), due[i]);
        }
    }

    /** YIELDED: as soon as one is queued it is READY and that is DONE. */
    private static void wakesByEachDriver() {
        filled("woken by the ALARM").ok1(3, 2, 0, 2, 3, 0).call(0, 1, 0, 0, 0)
            .then(k -> k.tick(2)).look(0, GrantKernel.YIELDED)
            .then(k -> k.tick(1)).then(k -> woken(k, 3, 3, 1)).play();
        filled("woken by the CONSOLE").ok2(0, 0, 4, 1, 1, 20, 2).ok(2, 1, 1, 9, 0).call(0, 1, 0, 0, 0)
            .then(k -> k.tick(1)).look(0, GrantKernel.YIELDED)
            .then(k -> k.tick(1)).then(k -> woken(k, 2, 0, 3)).play();
        filled("woken by a BUTTON").call(0, 1, 0, 0, 0)
            .then(k -> k.press(1, true)).look(0, GrantKernel.YIELDED)
            .then(k -> k.press(0, true)).then(k -> woken(k, 0, 1, 2)).play();
        filled("not YIELDED by what is queued").ok(2, 1, 1, 0, 0).call(0, 1, 0, 0, 0, 0, 0, 0, 3)
            .look(0, GrantKernel.READY).look(9, 1).play();
    }

    /** What is lost comes neither then nor later. */
    private static void lostIsNotDone() {
        emptied(filled("lost").then(UpcallTest::fill)
            .then(k -> {
                for (int i = 0; i < 8; i++) {
                    k.press(0, i % 2 == 0);
                }
            })
            .look(5, 4).look(8, 8)).look(8, 8).play();
    }

    /** Of one that is YIELDED the first is DONE at once: five more fill the queue and lose one. */
    private static void fullWhileReadyOnly() {
        filled("five behind the one that is DONE").call(0, 1, 0, 0, 0)
            .then(k -> {
                for (int i = 0; i < 6; i++) {
                    k.press(0, i % 2 == 0);
                    Check.due("DONE", k.look(0, 9), 1);
                    Check.due("queued", k.look(0, 5), Math.min(i, 4));
                    Check.due("lost", k.look(0, 8), i == 5 ? 1 : 0);
                }
            })
            .play();
    }
}
