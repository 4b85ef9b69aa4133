/** Promise 2. */
public final class FlashTest {
    public static void main(String[] args) {
        GrantKernel k = new GrantKernel();
        Check.due("flash(0, 5)", k.flash(0, 5), 0);
        Check.due("flash(0, -1)", k.flash(0, -1), 5);
        Check.due("flash(0, 0)", k.flash(0, 0), -1);
        Check.due("flash(511, MIN)", k.flash(511, Integer.MIN_VALUE), 0);
        Check.due("word(2044)", k.word(2044), Integer.MIN_VALUE);
        Check.due("flash(511, 3)", k.flash(511, 3), Integer.MIN_VALUE);
        Check.due("word(2040) beside it", k.word(2040), 0);
        Check.thrown("flash(-1, 0)", IllegalArgumentException.class, () -> k.flash(-1, 0));
        Check.thrown("flash(512, 0)", IllegalArgumentException.class, () -> k.flash(512, 0));
        Check.thrown("flash(MIN, 0)", IllegalArgumentException.class, () -> k.flash(Integer.MIN_VALUE, 0));
        Check.thrown("flash(MAX, 0)", IllegalArgumentException.class, () -> k.flash(Integer.MAX_VALUE, 0));
        k.boot();
        Check.thrown("flash(511, 9) booted", IllegalStateException.class, () -> k.flash(511, 9));
        Check.thrown("flash(512, 9) booted", IllegalArgumentException.class, () -> k.flash(512, 9));
        Check.due("word(2044) behind what was thrown", k.word(2044), 3);
        k.halt();
        Check.due("flash(511, 9) halted", k.flash(511, 9), 3);
        Check.due("word(2044)", k.word(2044), 9);
        Check.done();
    }
}
