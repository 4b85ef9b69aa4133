import java.util.function.Consumer;
import java.util.function.Supplier;

/**
 * Promise 3 over a run: BOOT again, while booted and behind halt, with the same FLASH and another: 'all is as at first
 * but for FLASH, POLICY and SLICE', so it is as with a new object of that FLASH, POLICY and SLICE.
 */
public final class BootAgainTest {
    private static final int POLICY = 2;
    private static final int SLICE = 42;
    private static final Consumer<GrantKernel> BOOT = GrantKernel::boot;
    private static final Consumer<GrantKernel> HALT = GrantKernel::halt;
    private static final Consumer<GrantKernel> BUSY = BootAgainTest::busy;

    public static void main(String[] args) {
        tracesAreLeft();
        sameFlash("boot() again", BOOT);
        sameFlash("boot() twice again", BOOT.andThen(BOOT));
        sameFlash("halt(), boot()", HALT.andThen(BOOT));
        sameFlash("halt(), boot(), halt(), boot()", HALT.andThen(BOOT).andThen(HALT).andThen(BOOT));
        sameFlash("busy again in between", BOOT.andThen(BUSY).andThen(BOOT));
        otherFlash("one that is no PROCESS any more", BootAgainTest::firstIsNone, 1);
        otherFlash("no HEADER at WORD 0", k -> k.flash(0, 0), 0);
        otherFlash("smaller BLOCKS", BootAgainTest::smallerBlocks, 2);
        otherFlash("another instruction", k -> k.flash(6, 0), 2);
        otherWays();
        wordsTold();
        Check.done();
    }

    /** SUBSCRIBES, writes nine octets, an alarm, a BUTTON, a key; then a WORD in its BLOCK, YIELD or FAULT. */
    private static Program traces(int header, int block, boolean faults) {
        int handler = header + 20;
        Program p = new Program().need(256).raw(Program.jalr(0, 1, 0)).entryHere()
            .ask(1, 0, 0, handler, 1).ask(1, 2, 0, handler, 2).ask(4, 1, 1, handler, 9)
            .ask(2, 1, 1, 9, 0).ask(2, 0, 2, 30, 0).ask(2, 2, 1, 1, 0).ask(2, 3, 2, header, block)
            .raw(Program.sw(2, 2, -4), Program.sw(2, 2, -128)).ask(5, 1, 8, 0, 0);
        return faults ? p.raw(0) : p.ask(0, 1, 0, 0, 0).loop();
    }

    private static GrantKernel withFlash() {
        GrantKernel k = new GrantKernel();
        int next = traces(0, 4096, true).into(k, 0);
        traces(4 * next, 4352, false).into(k, next);
        k.ways(POLICY, SLICE);
        return k;
    }

    /** Leaves something of all that can be left. */
    private static void busy(GrantKernel k) {
        k.run(2);
        k.tick(5);
        k.press(1, true);
        k.press(3, true);
        k.run(8);
        k.press(1, false);
        k.tick(7);
        k.run(1);
    }

    private static GrantKernel used() {
        GrantKernel k = withFlash();
        k.boot();
        busy(k);
        return k;
    }

    /** Else the tests below would tell nothing. */
    private static void tracesAreLeft() {
        GrantKernel k = used();
        Check.due("instructions", k.count(1) > 100, true);
        Check.due("TICKS", k.count(2), 12);
        Check.due("octets", k.count(3) > 0, true);
        Check.due("row", k.count(4) > 0, true);
        Check.due("keys", k.count(5), 2);
        Check.due("last turn", k.count(6) >= 0, true);
        Check.due("STARTED", k.look(0, 6), 3);
        Check.due("FAULTS", k.look(0, 7), 3);
        Check.due("DONE", k.look(1, 9) > 0, true);
        Check.due("GRANTS", k.look(1, 11), 15);
        Check.due("BREAK", k.look(1, 3), 4352 + 136);
        Check.due("a WORD of RAM", k.word(4352 + 124), 4352 + 128);
        Check.due("BUTTON 3 is pressed", k.press(3, true), false);
    }

    private static void sameFlash(String name, Consumer<GrantKernel> again) {
        compare(name, () -> {
            GrantKernel k = used();
            again.accept(k);
            return k;
        }, () -> {
            GrantKernel k = withFlash();
            k.boot();
            return k;
        });
    }

    private static void compare(String name, Supplier<GrantKernel> got, Supplier<GrantKernel> want) {
        Everything.same(name, got, want);
        Everything.same(name + ", then busy", () -> thenBusy(got.get()), () -> thenBusy(want.get()));
    }

    private static GrantKernel thenBusy(GrantKernel k) {
        busy(k);
        return k;
    }

    private static void otherFlash(String name, Consumer<GrantKernel> change, int processes) {
        compare(name, () -> {
            GrantKernel k = used();
            Check.due(name + ": halt()", k.halt(), 2);
            change.accept(k);
            Check.due(name + ": boot()", k.boot(), processes);
            return k;
        }, () -> {
            GrantKernel k = withFlash();
            change.accept(k);
            k.boot();
            return k;
        });
    }

    private static void firstIsNone(GrantKernel k) {
        k.flash(1, 2);
        k.flash(4, k.flash(4, 0) ^ 1 ^ 2);
    }

    private static void smallerBlocks(GrantKernel k) {
        k.flash(2, 64);
        k.flash(4, k.flash(4, 0) ^ 256 ^ 64);
    }

    /** POLICY and SLICE are as ways told last, before or behind halt. */
    private static void otherWays() {
        compare("other ways", () -> {
            GrantKernel k = used();
            k.ways(5, 9);
            k.halt();
            k.ways(1, 17);
            k.ways(10, 3);
            k.boot();
            return k;
        }, () -> {
            GrantKernel k = withFlash();
            k.ways(1, 17);
            k.boot();
            return k;
        });
    }

    /** The same once more in numbers: what the document says of a START and of BOOT. */
    private static void wordsTold() {
        GrantKernel k = used();
        int second = k.look(1, 1);
        Check.due("boot()", k.boot(), 2);
        int[] counts = {2, 0, 0, 0, 0, 0, -1};
        for (int what = 0; what < counts.length; what++) {
            Check.due("count(" + what + ")", k.count(what), counts[what]);
        }
        int[][] looks = {
            {0, 0, 4096, 4224, 4352, 0, 1, 0, 0, 0, 0, 0}, {0, second, 4352, 4480, 4608, 0, 1, 0, 0, 0, 0, 0}};
        for (int p = 0; p < 2; p++) {
            for (int what = 0; what < looks[p].length; what++) {
                Check.due("look(" + p + ", " + what + ")", k.look(p, what), looks[p][what]);
            }
            int[] due = new int[33];
            due[2] = looks[p][3];
            due[10] = looks[p][1];
            due[11] = looks[p][2];
            due[12] = 256;
            due[13] = looks[p][3];
            due[32] = looks[p][1] + 24;
            for (int r = 0; r <= 32; r++) {
                Check.due("register(" + p + ", " + r + ")", k.register(p, r), due[r]);
            }
        }
        Check.thrown("console(0)", IndexOutOfBoundsException.class, () -> k.console(0));
        Check.due("BUTTON 3 is let go", k.press(3, false), false);
        Check.due("the TICKS begin anew", k.tick(1), 1);
        Check.due("SLICE is kept", k.run(1), SLICE);
        Check.due("POLICY is kept: STARTED", k.run(8) > 0 ? k.look(0, 6) : 0, POLICY + 1);
    }
}
