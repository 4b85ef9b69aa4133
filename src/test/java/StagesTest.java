import java.util.NoSuchElementException;
import java.util.function.Consumer;
import java.util.function.ToLongFunction;

/**
 * Promises 1 to 13: each call before boot, while booted, and behind halt; which exception of a heading is the
 * first one that fits; and that nothing is changed by that.
 */
public final class StagesTest {
    private static final int LEAST = Integer.MIN_VALUE;
    private static final int MOST = Integer.MAX_VALUE;
    private static final Class<IllegalArgumentException> ARGUMENT = IllegalArgumentException.class;
    private static final Class<IllegalStateException> STATE = IllegalStateException.class;
    private static final Class<NoSuchElementException> NO_SUCH = NoSuchElementException.class;
    private static final Class<IndexOutOfBoundsException> INDEX = IndexOutOfBoundsException.class;

    private static final String[] NAMES = {"new", "booted", "halted", "booted with none", "halted with none"};

    public static void main(String[] args) {
        flash();
        halt();
        run();
        tick();
        press();
        register();
        word();
        look();
        console();
        count();
        waysInEachStage();
        bootInEachStage();
        whatHaltLeaves();
        Check.done();
    }

    /** One PROCESS with a value in memory, one that writes nine octets, three of which are written. */
    private static GrantKernel at(int stage) {
        GrantKernel k = new GrantKernel();
        if (stage == 0) {
            return k;
        }
        if (stage <= 2) {
            int next = new Program().need(64).li(5, 4096).raw(Program.sw(5, 5, 4), Program.addi(31, 0, 9)).loop()
                .into(k, 0);
            new Program().need(256).call(4, 1, 1, 4 * next + 20, 9).call(2, 1, 1, 9, 0).call(2, 3, 2, 1, 1)
                .loop().into(k, next);
        }
        k.ways(3, 33);
        k.boot();
        k.run(2);
        k.tick(3);
        k.press(1, true);
        if (stage % 2 == 0) {
            k.halt();
        }
        return k;
    }

    private static boolean isBooted(int stage) {
        return stage == 1 || stage == 3;
    }

    private static boolean hasProcesses(int stage) {
        return stage == 1 || stage == 2;
    }

    /** It throws that in the stage, and nothing is changed by it. */
    private static void refused(String call, int stage, Class<? extends RuntimeException> want,
            ToLongFunction<GrantKernel> body) {
        GrantKernel k = at(stage);
        String name = call + " when " + NAMES[stage];
        Snapshot before = new Snapshot(k);
        Check.thrown(name, want, () -> body.applyAsLong(k));
        Check.due(name + " changes nothing", before.isOf(k), true);
        Check.thrown(name + " again", want, () -> body.applyAsLong(k));
        if (isBooted(stage)) {
            Check.thrown(name + ": it is booted still", STATE, () -> k.flash(0, 0));
            Check.due(name + ": the BUTTON is pressed still", k.press(1, true), false);
        } else {
            Check.thrown(name + ": it is not booted still", STATE, k::halt);
        }
    }

    private static void inEachStage(Consumer<Integer> body) {
        for (int stage = 0; stage < NAMES.length; stage++) {
            body.accept(stage);
        }
    }

    /** Promise 2: IllegalArgumentException before IllegalStateException. */
    private static void flash() {
        int[] wrong = {-1, 512, LEAST, MOST};
        inEachStage(stage -> {
            for (int k : wrong) {
                refused("flash(" + k + ", 1)", stage, ARGUMENT, x -> x.flash(k, 1));
            }
            int[] right = {0, 1, 511};
            for (int k : right) {
                String call = "flash(" + k + ", 77)";
                if (isBooted(stage)) {
                    refused(call, stage, STATE, x -> x.flash(k, 77));
                } else {
                    GrantKernel x = at(stage);
                    int was = x.word(4 * k);
                    Check.due(call + " when " + NAMES[stage], x.flash(k, 77), was);
                    Check.due(call + ": the WORD", x.word(4 * k), 77);
                    Check.due(call + " again", x.flash(k, -1), 77);
                }
            }
        });
    }

    /** Promise 4. */
    private static void halt() {
        inEachStage(stage -> {
            if (isBooted(stage)) {
                GrantKernel k = at(stage);
                Check.due("halt() when " + NAMES[stage], k.halt(), hasProcesses(stage) ? 2 : 0);
                Check.due("flash(0, 5) behind halt()", k.flash(0, 5), hasProcesses(stage) ? 10 : 0);
            } else {
                refused("halt()", stage, STATE, GrantKernel::halt);
            }
        });
    }

    /** Promise 6: IllegalArgumentException before IllegalStateException. */
    private static void run() {
        int[] wrong = {0, 61, -1, LEAST, MOST};
        inEachStage(stage -> {
            for (int n : wrong) {
                refused("run(" + n + ")", stage, ARGUMENT, x -> x.run(n));
            }
            int[] right = {1, 60};
            for (int n : right) {
                if (isBooted(stage)) {
                    int due = hasProcesses(stage) ? 33 * n : 0;
                    Check.due("run(" + n + ") when " + NAMES[stage], at(stage).run(n), due);
                } else {
                    refused("run(" + n + ")", stage, STATE, x -> x.run(n));
                }
            }
        });
    }

    /** Promise 7: IllegalArgumentException before IllegalStateException. */
    private static void tick() {
        int[] wrong = {0, 61, -1, LEAST, MOST};
        inEachStage(stage -> {
            for (int n : wrong) {
                refused("tick(" + n + ")", stage, ARGUMENT, x -> x.tick(n));
            }
            int[] right = {1, 60};
            for (int n : right) {
                if (isBooted(stage)) {
                    Check.due("tick(" + n + ") when " + NAMES[stage], at(stage).tick(n), 3 + n);
                } else {
                    refused("tick(" + n + ")", stage, STATE, x -> x.tick(n));
                }
            }
        });
    }

    /** Promise 8: IllegalArgumentException before IllegalStateException. */
    private static void press() {
        int[] wrong = {-1, 4, LEAST, MOST};
        boolean[] both = {true, false};
        inEachStage(stage -> {
            for (boolean on : both) {
                for (int b : wrong) {
                    refused("press(" + b + ", " + on + ")", stage, ARGUMENT, x -> x.press(b, on) ? 1 : 0);
                }
                int[] right = {0, 3};
                for (int b : right) {
                    String call = "press(" + b + ", " + on + ")";
                    if (isBooted(stage)) {
                        Check.due(call + " when " + NAMES[stage], at(stage).press(b, on), on);
                    } else {
                        refused(call, stage, STATE, x -> x.press(b, on) ? 1 : 0);
                    }
                }
            }
        });
    }

    /** Promise 9: NoSuchElementException before IllegalArgumentException. */
    private static void register() {
        inEachStage(stage -> {
            int[] none = {-1, hasProcesses(stage) ? 2 : 0, 3, 4, LEAST, MOST};
            int[] all = {-1, 0, 32, 33, LEAST, MOST};
            for (int p : none) {
                for (int r : all) {
                    refused("register(" + p + ", " + r + ")", stage, NO_SUCH, x -> x.register(p, r));
                }
            }
            int[] wrong = {-1, 33, LEAST, MOST};
            for (int r : wrong) {
                if (hasProcesses(stage)) {
                    refused("register(1, " + r + ")", stage, ARGUMENT, x -> x.register(1, r));
                }
            }
            if (hasProcesses(stage)) {
                GrantKernel k = at(stage);
                Check.due("register(0, 0) when " + NAMES[stage], k.register(0, 0), 0);
                Check.due("register(0, 31) when " + NAMES[stage], k.register(0, 31), 9);
                Check.due("register(0, 32) when " + NAMES[stage], k.register(0, 32), 36);
            }
        });
    }

    /** Promise 10. */
    private static void word() {
        int[] wrong = {-4, -1, 1, 2, 3, 2046, 2047, 2048, 2052, 4092, 4095, 4097, 8190, 8191, 8192, 8196, LEAST, MOST,
            LEAST + 4096};
        inEachStage(stage -> {
            for (int at : wrong) {
                refused("word(" + at + ")", stage, ARGUMENT, x -> x.word(at));
            }
            GrantKernel k = at(stage);
            Check.due("word(0) when " + NAMES[stage], k.word(0), hasProcesses(stage) ? 10 : 0);
            Check.due("word(2044) when " + NAMES[stage], k.word(2044), 0);
            Check.due("word(4096) when " + NAMES[stage], k.word(4096), 0);
            Check.due("word(4100) when " + NAMES[stage], k.word(4100), hasProcesses(stage) ? 4096 : 0);
            Check.due("word(8188) when " + NAMES[stage], k.word(8188), 0);
        });
    }

    /** Promise 11: NoSuchElementException before IllegalArgumentException. */
    private static void look() {
        inEachStage(stage -> {
            int[] none = {-1, hasProcesses(stage) ? 2 : 0, 3, 4, LEAST, MOST};
            int[] all = {-1, 0, 11, 12, LEAST, MOST};
            for (int p : none) {
                for (int what : all) {
                    refused("look(" + p + ", " + what + ")", stage, NO_SUCH, x -> x.look(p, what));
                }
            }
            int[] wrong = {-1, 12, LEAST, MOST};
            for (int what : wrong) {
                if (hasProcesses(stage)) {
                    refused("look(1, " + what + ")", stage, ARGUMENT, x -> x.look(1, what));
                }
            }
            if (hasProcesses(stage)) {
                GrantKernel k = at(stage);
                int[] due = {GrantKernel.READY, 40, 4160, 4288, 4416 - 56, 0, 1, 0, 0, 0, 3, 10};
                for (int what = 0; what < due.length; what++) {
                    Check.due("look(1, " + what + ") when " + NAMES[stage], k.look(1, what), due[what]);
                }
            }
        });
    }

    /** Promise 12. */
    private static void console() {
        inEachStage(stage -> {
            int[] none = {-1, hasProcesses(stage) ? 3 : 0, 31, 32, LEAST, MOST};
            for (int octet : none) {
                refused("console(" + octet + ")", stage, INDEX, x -> x.console(octet));
            }
            if (hasProcesses(stage)) {
                GrantKernel k = at(stage);
                for (int octet = 0; octet < 3; octet++) {
                    int due = k.word(60) >>> 8 * (2 - octet) & 255;
                    Check.due("console(" + octet + ") when " + NAMES[stage], k.console(octet), due);
                }
            }
        });
    }

    /** Promise 13. */
    private static void count() {
        int[] wrong = {-1, 7, LEAST, MOST};
        int[][] due = {
            {0, 0, 0, 0, 0, 0, -1}, {2, 66, 3, 3, 1, 1, 1}, {2, 66, 3, 3, 1, 1, 1},
            {0, 0, 3, 0, 0, 0, -1}, {0, 0, 3, 0, 0, 0, -1}};
        inEachStage(stage -> {
            for (int what : wrong) {
                refused("count(" + what + ")", stage, ARGUMENT, x -> x.count(what));
            }
            GrantKernel k = at(stage);
            for (int what = 0; what < 7; what++) {
                Check.due("count(" + what + ") when " + NAMES[stage], k.count(what), due[stage][what]);
            }
        });
    }

    /** Promise 5: it has no exception, and is there in each stage. */
    private static void waysInEachStage() {
        inEachStage(stage -> {
            int[][] wrong = {{-1, 1}, {10, 50}, {0, 0}, {9, 51}, {LEAST, 1}, {MOST, 1}, {0, LEAST}, {0, MOST}};
            GrantKernel k = at(stage);
            Snapshot before = new Snapshot(k);
            for (int[] w : wrong) {
                Check.due("ways(" + w[0] + ", " + w[1] + ") when " + NAMES[stage], k.ways(w[0], w[1]), false);
            }
            Check.due("ways(0, 1) when " + NAMES[stage], k.ways(0, 1), true);
            Check.due("ways(9, 50) when " + NAMES[stage], k.ways(9, 50), true);
            Check.due("ways(3, 7) when " + NAMES[stage], k.ways(3, 7), true);
            Check.due("ways changes nothing else when " + NAMES[stage], before.isOf(k), true);
            k.boot();
            Check.due("SLICE behind boot()", k.run(1), hasProcesses(stage) ? 7 : 0);
        });
    }

    /** Promise 3: it has no exception, and is there in each stage. */
    private static void bootInEachStage() {
        inEachStage(stage -> {
            GrantKernel k = at(stage);
            int due = hasProcesses(stage) ? 2 : 0;
            Check.due("boot() when " + NAMES[stage], k.boot(), due);
            Check.thrown("flash(0, 0) behind boot()", STATE, () -> k.flash(0, 0));
            Check.due("BUTTON 1 is let go behind boot()", k.press(1, false), false);
            Check.due("TICKS behind boot()", k.tick(1), 1);
            Check.due("boot() twice", k.boot(), due);
            Check.due("halt() behind boot()", k.halt(), due);
        });
    }

    /** Promise 4: it is not booted any more, and nothing else is said to change. */
    private static void whatHaltLeaves() {
        GrantKernel k = at(1);
        Snapshot before = new Snapshot(k);
        k.halt();
        Check.due("halt() leaves all that can be asked", before.isOf(k), true);
        k.flash(9, 5);
        Check.due("FLASH can be changed", k.word(36), 5);
        Check.due("the PROCESSES are as they were", k.register(0, 31), 9);
    }
}
