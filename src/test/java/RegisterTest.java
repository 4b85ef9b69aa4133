import java.util.NoSuchElementException;

/** Promise 9. */
public final class RegisterTest {
    public static void main(String[] args) {
        Program p = new Program();
        for (int r = 0; r < 32; r++) {
            p.raw(Program.addi(r, 0, 100 + r));
        }
        p.loop();
        GrantKernel k = Program.booted(0, 32, p, new Program().loop());
        k.run(1);
        Check.due("register(0, 0)", k.register(0, 0), 0);
        for (int r = 1; r < 32; r++) {
            Check.due("register(0, " + r + ")", k.register(0, r), 100 + r);
        }
        Check.due("register(0, 32)", k.register(0, 32), 20 + 4 * 32);
        Check.due("register(1, 10)", k.register(1, 10), 4 * p.size());
        int[] noProcess = {-1, 2, 3, 4, Integer.MIN_VALUE, Integer.MAX_VALUE};
        for (int q : noProcess) {
            Check.thrown("register(" + q + ", 0)", NoSuchElementException.class, () -> k.register(q, 0));
            Check.thrown("register(" + q + ", 33)", NoSuchElementException.class, () -> k.register(q, 33));
        }
        int[] noRegister = {-1, 33, Integer.MIN_VALUE, Integer.MAX_VALUE};
        for (int r : noRegister) {
            Check.thrown("register(0, " + r + ")", IllegalArgumentException.class, () -> k.register(0, r));
        }
        Check.done();
    }
}
