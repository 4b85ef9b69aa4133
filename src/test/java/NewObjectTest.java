import java.util.NoSuchElementException;

/** Promise 1. */
public final class NewObjectTest {
    public static void main(String[] args) {
        memoryIsZero();
        notBooted();
        firstWays();
        Check.done();
    }

    /** In parts, as an object is good for 512 calls alone. */
    private static void memoryIsZero() {
        for (int part = 0; part < 2048; part += 1024) {
            GrantKernel k = new GrantKernel();
            for (int at = part; at < part + 1024; at += 4) {
                Check.due("word(" + at + ")", k.word(at), 0);
            }
        }
        for (int part = 4096; part < 8192; part += 1024) {
            GrantKernel k = new GrantKernel();
            for (int at = part; at < part + 1024; at += 4) {
                Check.due("word(" + at + ")", k.word(at), 0);
            }
        }
    }

    private static void notBooted() {
        GrantKernel k = new GrantKernel();
        Check.thrown("halt()", IllegalStateException.class, k::halt);
        Check.thrown("run(1)", IllegalStateException.class, () -> k.run(1));
        Check.thrown("tick(1)", IllegalStateException.class, () -> k.tick(1));
        Check.thrown("press(0, true)", IllegalStateException.class, () -> k.press(0, true) ? 1 : 0);
        Check.thrown("look(0, 0)", NoSuchElementException.class, () -> k.look(0, 0));
        Check.thrown("register(0, 0)", NoSuchElementException.class, () -> k.register(0, 0));
        Check.thrown("console(0)", IndexOutOfBoundsException.class, () -> k.console(0));
        for (int what = 0; what <= 5; what++) {
            Check.due("count(" + what + ")", k.count(what), 0);
        }
        Check.due("count(6)", k.count(6), -1);
        Check.due("flash(0, 1)", k.flash(0, 1), 0);
        Check.due("boot() of no HEADER", k.boot(), 0);
    }

    private static void firstWays() {
        GrantKernel k = new GrantKernel();
        new Program().loop().into(k, 0);
        k.boot();
        Check.due("run(1) with the first SLICE", k.run(1), 8);
        GrantKernel f = new GrantKernel();
        new Program().raw(0).into(f, 0);
        f.boot();
        f.run(1);
        Check.due("how it stands with the first POLICY", f.look(0, 0), GrantKernel.FAULTED);
        Check.due("STARTED with the first POLICY", f.look(0, 6), 1);
    }
}
