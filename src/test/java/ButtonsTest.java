/** DRIVER 2. */
public final class ButtonsTest {
    private static final int HANDLER = Script.HANDLER;

    public static void main(String[] args) {
        commands();
        wants();
        Check.done();
    }

    private static void commands() {
        new Script("BUTTONS")
            .ok1(4, 2, 2, 0, 99, 6)
            .ok1(0, 2, 2, 3, 0, 6)
            .ok1(0, 2, 2, 3, 3, 6)
            .then(k -> k.press(3, true))
            .ok1(1, 2, 2, 3, 3, 6)
            .ok1(0, 2, 2, 3, 2, 6)
            .then(k -> k.press(3, false))
            .ok1(0, 2, 2, 3, 3, 6)
            .ok(2, 2, 1, 0, 6)
            .ok(2, 2, 1, 3, 6)
            .ok(2, 2, 2, 3, 6)
            .ok(2, 2, 2, 3, 6)
            .no(6, 2, 2, 1, 4, 6)
            .no(6, 2, 2, 2, 4, 6)
            .no(6, 2, 2, 3, 4, 6)
            .no(6, 2, 2, 1, -1, 6)
            .no(6, 2, 2, 2, Integer.MIN_VALUE, 6)
            .no(6, 2, 2, 3, 32, 6)
            .no(10, 2, 2, 4, 0, 6)
            .no(10, 2, 2, 4, 9, 6)
            .no(10, 2, 2, -1, 0, 6)
            .play();
    }

    private static void wants() {
        new Script("wants")
            .ok2(0, 0, 1, 2, 0, HANDLER, 5)
            .ok2(0, 0, 1, 2, 1, HANDLER, 6)
            .then(k -> k.press(0, true)).look(5, 0)
            .ok(2, 2, 1, 1, 0)
            .then(k -> k.press(0, false)).look(5, 0)
            .then(k -> k.press(1, true)).look(5, 1)
            .then(k -> k.press(1, true)).look(5, 1)
            .then(k -> k.press(1, false)).look(5, 2)
            .upcall(1, 1, 0, 5)
            .upcall(1, 0, 0, 5)
            .noUpcall()
            .ok(2, 2, 1, 3, 0)
            .ok(2, 2, 2, 1, 0)
            .then(k -> k.press(1, true)).look(5, 0)
            .then(k -> k.press(3, true)).look(5, 1)
            .upcall(3, 1, 0, 5)
            .play();
    }
}
