/** DRIVER 2. */
public final class ButtonsTest {
    private static final int HANDLER = Script.HANDLER;

    public static void main(String[] args) {
        commands();
        wants();
        noneOfThem();
        wantedTwice();
        pressedBefore();
        pressedByNumber();
        eachItsOwn();
        Check.done();
    }

    private static void commands() {
        new Script("BUTTONS")
            .ok1(4, 2, 2, 0, 99, 6)
            .ok1(0, 2, 2, 3, 0, 6)
            .ok1(0, 2, 2, 3, 3, 6)
            .then(k -> k.press(3, true))
            .ok1(1, 2, 2, 3, 3, 6)
            .ok1(0, 2, 2, 3, 2, 6)
            .then(k -> k.press(3, false))
            .ok1(0, 2, 2, 3, 3, 6)
            .ok(2, 2, 1, 0, 6)
            .ok(2, 2, 1, 3, 6)
            .ok(2, 2, 2, 3, 6)
            .ok(2, 2, 2, 3, 6)
            .no(6, 2, 2, 1, 4, 6)
            .no(6, 2, 2, 2, 4, 6)
            .no(6, 2, 2, 3, 4, 6)
            .no(6, 2, 2, 1, -1, 6)
            .no(6, 2, 2, 2, Integer.MIN_VALUE, 6)
            .no(6, 2, 2, 3, 32, 6)
            .no(10, 2, 2, 4, 0, 6)
            .no(10, 2, 2, 4, 9, 6)
            .no(10, 2, 2, -1, 0, 6)
            .play();
    }

    private static void wants() {
        new Script("wants")
            .ok2(0, 0, 1, 2, 0, HANDLER, 5)
            .ok2(0, 0, 1, 2, 1, HANDLER, 6)
            .then(k -> k.press(0, true)).look(5, 0)
            .ok(2, 2, 1, 1, 0)
            .then(k -> k.press(0, false)).look(5, 0)
            .then(k -> k.press(1, true)).look(5, 1)
            .then(k -> k.press(1, true)).look(5, 1)
            .then(k -> k.press(1, false)).look(5, 2)
            .upcall(1, 1, 0, 5)
            .upcall(1, 0, 0, 5)
            .noUpcall()
            .ok(2, 2, 1, 3, 0)
            .ok(2, 2, 2, 1, 0)
            .then(k -> k.press(1, true)).look(5, 0)
            .then(k -> k.press(3, true)).look(5, 1)
            .upcall(3, 1, 0, 5)
            .play();
    }

    /** BUTTONS 1, 2, 3: NO 6 if c is none, and nothing is wanted by that. */
    private static void noneOfThem() {
        int[] none = {-1, 4, 5, 32, 256, Integer.MIN_VALUE, Integer.MAX_VALUE};
        for (int c : none) {
            new Script("BUTTON " + c)
                .ok2(0, 0, 1, 2, 0, HANDLER, 5)
                .no(6, 2, 2, 1, c, 7).no(6, 2, 2, 2, c, 7).no(6, 2, 2, 3, c, 7)
                .ok1(4, 2, 2, 0, c, 7)
                .then(k -> {
                    for (int b = 0; b < 4; b++) {
                        k.press(b, true);
                    }
                })
                .look(5, 0)
                .play();
        }
        for (int c = 0; c < 4; c++) {
            int b = c;
            new Script("BUTTON " + c)
                .ok2(0, 0, 1, 2, 0, HANDLER, 5)
                .ok(2, 2, 1, c, 7).ok1(0, 2, 2, 3, c, 7)
                .then(k -> k.press(b, true)).look(5, 1)
                .ok1(1, 2, 2, 3, c, 7)
                .upcall(c, 1, 0, 5)
                .ok(2, 2, 2, c, 7)
                .then(k -> k.press(b, false)).look(5, 0)
                .ok1(0, 2, 2, 3, c, 7)
                .play();
        }
    }

    /** It wants a BUTTON or not: twice is no more than once, and 'no more' is for both. */
    private static void wantedTwice() {
        new Script("wanted twice")
            .ok2(0, 0, 1, 2, 0, HANDLER, 5)
            .ok(2, 2, 1, 2, 0).ok(2, 2, 1, 2, 0)
            .then(k -> k.press(2, true)).look(5, 1)
            .ok(2, 2, 2, 2, 0)
            .then(k -> k.press(2, false)).look(5, 1)
            .ok(2, 2, 2, 2, 0)
            .ok(2, 2, 1, 2, 0)
            .then(k -> k.press(2, true)).look(5, 2)
            .play();
    }

    /** What was PRESSED before it was wanted is no UPCALL; letting go of it is. */
    private static void pressedBefore() {
        new Script("PRESSED before")
            .ok2(0, 0, 1, 2, 0, HANDLER, 5)
            .then(k -> k.press(3, true))
            .ok(2, 2, 1, 3, 0).look(5, 0)
            .then(k -> Check.due("not new", k.press(3, true), false)).look(5, 0)
            .then(k -> Check.due("new", k.press(3, false), true)).look(5, 1)
            .then(k -> Check.due("not new", k.press(3, false), false)).look(5, 1)
            .upcall(3, 0, 0, 5)
            .play();
    }

    private static void pressedByNumber() {
        new Script("each is PRESSED by itself")
            .then(k -> k.press(0, true)).then(k -> k.press(3, true))
            .ok1(1, 2, 2, 3, 0, 0).ok1(0, 2, 2, 3, 1, 0).ok1(0, 2, 2, 3, 2, 0).ok1(1, 2, 2, 3, 3, 0)
            .then(k -> k.press(0, false))
            .ok1(0, 2, 2, 3, 0, 0).ok1(1, 2, 2, 3, 3, 0)
            .play();
    }

    /** 'no more' of one PROCESS takes nothing from another. */
    private static void eachItsOwn() {
        Program first = new Program().need(128).call(1, 2, 0, 20, 5).call(2, 2, 1, 1, 0).loop();
        Program second = new Program().need(128).call(1, 2, 0, 20, 6).call(2, 2, 1, 1, 0).call(2, 2, 2, 1, 0).loop();
        GrantKernel k = Program.booted(0, Program.CALL_WORDS, first, second);
        k.run(6);
        k.press(1, true);
        Check.due("the first wants it", k.look(0, 5), 1);
        Check.due("the second no more", k.look(1, 5), 0);
    }
}
