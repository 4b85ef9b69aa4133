import java.util.NoSuchElementException;

/** Promise 11. */
public final class LookTest {
    public static void main(String[] args) {
        wrongInputs();
        everyWhat();
        countsOutliveStarts();
        stands();
        Check.done();
    }

    private static void wrongInputs() {
        GrantKernel k = Program.booted(0, 8, new Program().loop());
        int[] noProcess = {-1, 1, 4, Integer.MIN_VALUE, Integer.MAX_VALUE};
        for (int p : noProcess) {
            Check.thrown("look(" + p + ", 0)", NoSuchElementException.class, () -> k.look(p, 0));
            Check.thrown("look(" + p + ", 12)", NoSuchElementException.class, () -> k.look(p, 12));
        }
        int[] nothing = {-1, 12, Integer.MIN_VALUE, Integer.MAX_VALUE};
        for (int what : nothing) {
            Check.thrown("look(0, " + what + ")", IllegalArgumentException.class, () -> k.look(0, what));
        }
    }

    private static void everyWhat() {
        Program p = new Program().need(512)
            .call(1, 2, 0, 20, 0).call(2, 2, 1, 0, 0).call(2, 3, 2, 1, 1).call(5, 1, 16, 0, 0)
            .call(0, 0, 0, 0, 0).loop();
        GrantKernel k = Program.booted(0, 44, new Program().need(64).call(6, 0, 0, 0, 0), p);
        k.run(2);
        for (int i = 0; i < 6; i++) {
            k.press(0, i % 2 == 0);
        }
        k.ways(0, 11);
        k.run(1);
        int block = 4096 + 64;
        int header = 4 * 16;
        int[] due = {GrantKernel.READY, header, block, block + 256 + 16, block + 512 - 16 - 8, 3, 1, 0, 2, 1, 5, 12};
        for (int what = 0; what < 12; what++) {
            Check.due("look(1, " + what + ")", k.look(1, what), due[what]);
        }
    }

    /** One UPCALL lost, one DONE, a FAULT: then all but those counts begin anew. */
    private static void countsOutliveStarts() {
        int function = 20 + 4 * 3 * Program.CALL_WORDS;
        Program p = new Program().need(256)
            .call(1, 2, 0, function, 0).call(2, 2, 1, 0, 0).call(0, 0, 0, 0, 0).raw(0);
        GrantKernel k = Program.booted(1, 22, p);
        k.run(1);
        for (int i = 0; i < 5; i++) {
            k.press(0, i % 2 == 0);
        }
        k.ways(1, 11);
        k.run(1);
        Check.due("queued", k.look(0, 5), 3);
        Check.due("PC is the function", k.register(0, 32), function);
        k.run(1);
        int[] due = {GrantKernel.READY, 0, 4096, 4224, 4352, 0, 2, 1, 1, 1, 3, 0};
        for (int what = 0; what < 12; what++) {
            Check.due("look(0, " + what + ") STARTED again", k.look(0, what), due[what]);
        }
    }

    private static void stands() {
        GrantKernel k = Program.booted(0, 50,
            new Program().need(64).loop(),
            new Program().need(64).call(0, 1, 0, 0, 0),
            new Program().need(64).call(6, 0, 0, 0, 0),
            new Program().need(64).raw(0));
        k.run(4);
        Check.due("READY", k.look(0, 0), 0);
        Check.due("YIELDED", k.look(1, 0), 1);
        Check.due("STOPPED", k.look(2, 0), 2);
        Check.due("FAULTED", k.look(3, 0), 3);
    }
}
