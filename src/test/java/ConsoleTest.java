/** Promise 12, and DRIVER 1. */
public final class ConsoleTest {
    private static final int TEXT = 4096;

    public static void main(String[] args) {
        latest32();
        writes();
        row();
        allowedThen();
        noLongerOwn();
        leavesTheRow();
        Check.done();
    }

    /** Writes its own FLASH, whose octets the test knows; the HEADER's address is to be told. */
    private static Program writing(int header, int octets) {
        return new Program().need(256).call(4, 1, 1, header + 20, octets).call(2, 1, 1, octets, 0).loop();
    }

    private static int flashOctet(GrantKernel k, int at) {
        return k.word(at & ~3) >>> 8 * (at & 3) & 255;
    }

    private static void latest32() {
        GrantKernel k = Program.booted(0, 22, writing(0, 40));
        Check.thrown("console(0) at first", IndexOutOfBoundsException.class, () -> k.console(0));
        k.run(1);
        Check.thrown("console(0) before a TICK", IndexOutOfBoundsException.class, () -> k.console(0));
        k.tick(1);
        Check.due("console(0)", k.console(0), flashOctet(k, 20));
        Check.thrown("console(1)", IndexOutOfBoundsException.class, () -> k.console(1));
        Check.thrown("console(-1)", IndexOutOfBoundsException.class, () -> k.console(-1));
        k.tick(30);
        Check.due("console(30)", k.console(30), flashOctet(k, 20));
        Check.thrown("console(31)", IndexOutOfBoundsException.class, () -> k.console(31));
        k.tick(1);
        Check.due("console(31)", k.console(31), flashOctet(k, 20));
        k.tick(20);
        Check.due("octets written", k.count(3), 40);
        for (int i = 0; i < 32; i++) {
            Check.due("console(" + i + ")", k.console(i), flashOctet(k, 20 + 39 - i));
        }
        Check.thrown("console(32)", IndexOutOfBoundsException.class, () -> k.console(32));
        Check.thrown("console(MIN)", IndexOutOfBoundsException.class, () -> k.console(Integer.MIN_VALUE));
        Check.thrown("console(MAX)", IndexOutOfBoundsException.class, () -> k.console(Integer.MAX_VALUE));
    }

    private static void writes() {
        new Script("CONSOLE")
            .ok(2, 1, 0, 0, 0).look(11, 0)
            .no(10, 2, 1, 2, 0, 0).look(11, 2)
            .no(10, 2, 1, -1, 0, 0)
            .ok(2, 1, 1, 5, 0).look(5, 0).count(4, 0)
            .ok2(0, 0, 1, 1, 1, Script.HANDLER, 9)
            .ok2(0, 0, 1, 1, 0, Script.HANDLER, 8)
            .ok(2, 1, 1, 5, 0).look(5, 1).count(4, 0)
            .upcall(0, 0, 0, 9)
            .ok2(0, 0, 4, 1, 1, 20, 3)
            .ok2(0, 0, 4, 1, 0, 20, 9)
            .ok2(0, 0, 3, 1, 1, TEXT, 9)
            .ok(2, 1, 1, 0, 0).upcall(0, 0, 0, 9)
            .ok(2, 1, 1, 2, 0).count(4, 1)
            .no(2, 2, 1, 1, 2, 0)
            .no(2, 2, 1, 1, 0, 0)
            .then(k -> k.tick(1)).look(5, 0).count(3, 1).count(4, 1)
            .then(k -> k.tick(1)).look(5, 1).count(3, 2).count(4, 0)
            .upcall(2, 0, 0, 9)
            .ok(2, 1, 1, -1, 0)
            .then(k -> k.tick(60)).count(3, 5)
            .upcall(3, 0, 0, 9)
            .ok(2, 1, 1, 4, 0)
            .then(k -> k.tick(2)).count(4, 1)
            .then(k -> k.tick(1)).count(4, 0)
            .upcall(3, 0, 0, 9)
            .noUpcall()
            .play();
    }

    private static void row() {
        GrantKernel k = Program.booted(0, 22, writing(0, 3), writing(112, 2), writing(224, 1));
        k.run(3);
        Check.due("three in the row", k.count(4), 3);
        int[] left = {3, 3, 2, 2, 1, 0, 0};
        int[] written = {1, 2, 3, 4, 5, 6, 6};
        for (int i = 0; i < left.length; i++) {
            k.tick(1);
            Check.due("row behind TICK " + (i + 1), k.count(4), left[i]);
            Check.due("octets behind TICK " + (i + 1), k.count(3), written[i]);
        }
        int second = k.look(1, 1) + 20;
        int third = k.look(2, 1) + 20;
        int[] from = {third, second + 1, second, 22, 21, 20};
        for (int i = 0; i < 6; i++) {
            Check.due("console(" + i + ") of the row", k.console(i), flashOctet(k, from[i]));
        }
    }

    /** What is ALLOWED may be another thing while it is written. */
    private static void allowedThen() {
        new Script("ALLOWED then")
            .raw(Program.lui(5, 1), Program.addi(6, 0, 'a'), Program.sb(5, 6, 0))
            .raw(Program.addi(6, 0, -1), Program.sb(5, 6, 1))
            .raw(Program.addi(6, 0, 'c'), Program.sb(5, 6, 2), Program.sb(5, 6, 9), Program.sb(5, 6, 10))
            .ok2(0, 0, 4, 1, 1, TEXT, 4)
            .ok2(0, 0, 1, 1, 1, Script.HANDLER, 0)
            .ok(2, 1, 1, 4, 0)
            .then(k -> {
                k.tick(2);
                Check.due("octet 0", k.console(1), 'a');
                Check.due("octet 1 without sign", k.console(0), 255);
            })
            .ok2(TEXT, 4, 4, 1, 1, TEXT + 7, 3)
            .then(k -> {
                k.tick(1);
                Check.due("octet 2 of another", k.console(0), 'c');
                Check.due("it writes on", k.count(4), 1);
            })
            .then(k -> {
                k.tick(1);
                Check.due("octet 3: too short", k.console(0), 0);
                Check.due("it is through", k.count(4), 0);
            })
            .upcall(4, 0, 0, 0)
            .play();
    }

    private static void noLongerOwn() {
        new Script("no longer OWN")
            .raw(Program.lui(5, 1), Program.addi(6, 0, 'x'), Program.sb(5, 6, 0), Program.sb(5, 6, 1))
            .ok2(0, 0, 4, 1, 1, TEXT, 2)
            .ok(2, 1, 1, 2, 0)
            .ok(5, 0, TEXT + 1, 0, 0)
            .then(k -> {
                k.tick(1);
                Check.due("octet 0, below the BREAK", k.console(0), 'x');
                k.tick(1);
                Check.due("octet 1, at the BREAK", k.console(0), 0);
                Check.due("word(4096) keeps it", k.word(4096), 'x' | 'x' << 8);
            })
            .play();
    }

    private static void leavesTheRow() {
        Program exits = new Program().need(256).call(4, 1, 1, 20, 9).call(2, 1, 1, 9, 0).call(6, 0, 0, 0, 0);
        Program faults = new Program().need(256).call(4, 1, 1, 172, 9).call(2, 1, 1, 9, 0).raw(0);
        GrantKernel k = Program.booted(0, 22, exits, faults, writing(264, 1), writing(376, 1));
        k.run(4);
        Check.due("four in the row", k.count(4), 4);
        k.tick(1);
        k.run(1);
        Check.due("EXIT leaves it", k.count(4), 3);
        k.run(1);
        Check.due("a FAULT leaves it", k.count(4), 2);
        k.tick(1);
        Check.due("the next one writes", k.console(0), flashOctet(k, k.look(2, 1) + 20));
        Check.due("one is left", k.count(4), 1);
    }
}
