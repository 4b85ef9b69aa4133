/** Promise 8. */
public final class PressTest {
    public static void main(String[] args) {
        arguments();
        forThoseThatWantIt();
        Check.done();
    }

    private static void arguments() {
        GrantKernel k = new GrantKernel();
        int[] wrong = {-1, 4, Integer.MIN_VALUE, Integer.MAX_VALUE};
        for (int b : wrong) {
            Check.thrown("press(" + b + ", true) not booted", IllegalArgumentException.class,
                () -> k.press(b, true) ? 1 : 0);
        }
        Check.thrown("press(3, true) not booted", IllegalStateException.class, () -> k.press(3, true) ? 1 : 0);
        k.boot();
        for (int b : wrong) {
            Check.thrown("press(" + b + ", true)", IllegalArgumentException.class, () -> k.press(b, true) ? 1 : 0);
        }
        for (int b = 0; b < 4; b++) {
            Check.due("press(" + b + ", false) at first", k.press(b, false), false);
            Check.due("press(" + b + ", true)", k.press(b, true), true);
            Check.due("press(" + b + ", true) again", k.press(b, true), false);
        }
        for (int b = 0; b < 4; b++) {
            Check.due("press(" + b + ", false)", k.press(b, false), true);
            Check.due("press(" + b + ", false) again", k.press(b, false), false);
        }
    }

    private static Program wanting(int button) {
        return new Program().need(128).call(1, 2, 0, 20, 50 + button).call(2, 2, 1, button, 0)
            .call(0, 1, 0, 0, 0).loop();
    }

    private static void forThoseThatWantIt() {
        GrantKernel k = Program.booted(0, 50, wanting(1), wanting(2), wanting(1));
        k.run(3);
        Check.due("press(3, true)", k.press(3, true), true);
        Check.due("none wants 3", k.look(0, 9) + k.look(1, 9) + k.look(2, 9), 0);
        k.press(1, true);
        int[] done = {1, 0, 1};
        for (int p = 0; p < 3; p++) {
            Check.due("UPCALLS DONE of " + p, k.look(p, 9), done[p]);
        }
        int[] numbers = {1, 1, 0, 51};
        for (int i = 0; i < 4; i++) {
            Check.due("x" + (10 + i) + " of 0", k.register(0, 10 + i), numbers[i]);
            Check.due("x" + (10 + i) + " of 2", k.register(2, 10 + i), numbers[i]);
        }
        k.press(1, true);
        Check.due("not new: nothing is queued", k.look(0, 5), 0);
        k.press(1, false);
        Check.due("let go is queued", k.look(0, 5), 1);
        k.press(2, true);
        k.press(2, false);
        Check.due("1 has had the first of its own", k.register(1, 11), 1);
        Check.due("and the second is queued", k.look(1, 5), 1);
    }
}
