/** Promise 4. */
public final class HaltTest {
    public static void main(String[] args) {
        GrantKernel k = new GrantKernel();
        Check.thrown("halt() of a new one", IllegalStateException.class, k::halt);
        int at = new Program().loop().into(k, 0);
        new Program().loop().into(k, at);
        k.boot();
        k.run(1);
        Check.thrown("flash(0, 0) booted", IllegalStateException.class, () -> k.flash(0, 0));
        Check.due("halt()", k.halt(), 2);
        Check.thrown("halt() twice", IllegalStateException.class, k::halt);
        Check.thrown("run(1) halted", IllegalStateException.class, () -> k.run(1));
        Check.thrown("tick(1) halted", IllegalStateException.class, () -> k.tick(1));
        Check.thrown("press(0, true) halted", IllegalStateException.class, () -> k.press(0, true) ? 1 : 0);
        Check.due("instructions stay told", k.count(1), 8);
        Check.due("flash(0, 0) halted", k.flash(0, 0), 6);
        Check.due("boot() with no HEADER", k.boot(), 0);
        Check.due("halt() of none", k.halt(), 0);
        Check.done();
    }
}
