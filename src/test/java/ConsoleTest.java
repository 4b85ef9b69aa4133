/** Promise 12, and DRIVER 1. */
public final class ConsoleTest {
    private static final int TEXT = 4096;

    public static void main(String[] args) {
        latest32();
        writes();
        row();
        allowedThen();
        noLongerOwn();
        leavesTheRow();
        howMany();
        noneAtOnce();
        busyInTheRow();
        rowByCommand();
        backIntoTheRow();
        octetsOfThen();
        tooShort();
        ownAgain();
        allowedBySize();
        keptBehindMany();
        Check.done();
    }

    /** Writes its own FLASH, whose octets the test knows; the HEADER's address is to be told. */
    private static Program writing(int header, int octets) {
        return new Program().need(256).call(4, 1, 1, header + 20, octets).call(2, 1, 1, octets, 0).loop();
    }

    private static int flashOctet(GrantKernel k, int at) {
        return k.word(at & ~3) >>> 8 * (at & 3) & 255;
    }

    private static void latest32() {
        GrantKernel k = Program.booted(0, 22, writing(0, 40));
        Check.thrown("console(0) at first", IndexOutOfBoundsException.class, () -> k.console(0));
        k.run(1);
        Check.thrown("console(0) before a TICK", IndexOutOfBoundsException.class, () -> k.console(0));
        k.tick(1);
        Check.due("console(0)", k.console(0), flashOctet(k, 20));
        Check.thrown("console(1)", IndexOutOfBoundsException.class, () -> k.console(1));
        Check.thrown("console(-1)", IndexOutOfBoundsException.class, () -> k.console(-1));
        k.tick(30);
        Check.due("console(30)", k.console(30), flashOctet(k, 20));
        Check.thrown("console(31)", IndexOutOfBoundsException.class, () -> k.console(31));
        k.tick(1);
        Check.due("console(31)", k.console(31), flashOctet(k, 20));
        k.tick(20);
        Check.due("octets written", k.count(3), 40);
        for (int i = 0; i < 32; i++) {
            Check.due("console(" + i + ")", k.console(i), flashOctet(k, 20 + 39 - i));
        }
        Check.thrown("console(32)", IndexOutOfBoundsException.class, () -> k.console(32));
        Check.thrown("console(MIN)", IndexOutOfBoundsException.class, () -> k.console(Integer.MIN_VALUE));
        Check.thrown("console(MAX)", IndexOutOfBoundsException.class, () -> k.console(Integer.MAX_VALUE));
    }

    private static void writes() {
        new Script("CONSOLE")
            .ok(2, 1, 0, 0, 0).look(11, 0)
            .no(10, 2, 1, 2, 0, 0).look(11, 2)
            .no(10, 2, 1, -1, 0, 0)
            .ok(2, 1, 1, 5, 0).look(5, 0).count(4, 0)
            .ok2(0, 0, 1, 1, 1, Script.HANDLER, 9)
            .ok2(0, 0, 1, 1, 0, Script.HANDLER, 8)
            .ok(2, 1, 1, 5, 0).look(5, 1).count(4, 0)
            .upcall(0, 0, 0, 9)
            .ok2(0, 0, 4, 1, 1, 20, 3)
            .ok2(0, 0, 4, 1, 0, 20, 9)
            .ok2(0, 0, 3, 1, 1, TEXT, 9)
            .ok(2, 1, 1, 0, 0).upcall(0, 0, 0, 9)
            .ok(2, 1, 1, 2, 0).count(4, 1)
            .no(2, 2, 1, 1, 2, 0)
            .no(2, 2, 1, 1, 0, 0)
            .then(k -> k.tick(1)).look(5, 0).count(3, 1).count(4, 1)
            .then(k -> k.tick(1)).look(5, 1).count(3, 2).count(4, 0)
            .upcall(2, 0, 0, 9)
            .ok(2, 1, 1, -1, 0)
            .then(k -> k.tick(60)).count(3, 5)
            .upcall(3, 0, 0, 9)
            .ok(2, 1, 1, 4, 0)
            .then(k -> k.tick(2)).count(4, 1)
            .then(k -> k.tick(1)).count(4, 0)
            .upcall(3, 0, 0, 9)
            .noUpcall()
            .play();
    }

    private static void row() {
        GrantKernel k = Program.booted(0, 22, writing(0, 3), writing(112, 2), writing(224, 1));
        k.run(3);
        Check.due("three in the row", k.count(4), 3);
        int[] left = {3, 3, 2, 2, 1, 0, 0};
        int[] written = {1, 2, 3, 4, 5, 6, 6};
        for (int i = 0; i < left.length; i++) {
            k.tick(1);
            Check.due("row behind TICK " + (i + 1), k.count(4), left[i]);
            Check.due("octets behind TICK " + (i + 1), k.count(3), written[i]);
        }
        int second = k.look(1, 1) + 20;
        int third = k.look(2, 1) + 20;
        int[] from = {third, second + 1, second, 22, 21, 20};
        for (int i = 0; i < 6; i++) {
            Check.due("console(" + i + ") of the row", k.console(i), flashOctet(k, from[i]));
        }
    }

    /** What is ALLOWED may be another thing while it is written. */
    private static void allowedThen() {
        new Script("ALLOWED then")
            .raw(Program.lui(5, 1), Program.addi(6, 0, 'a'), Program.sb(5, 6, 0))
            .raw(Program.addi(6, 0, -1), Program.sb(5, 6, 1))
            .raw(Program.addi(6, 0, 'c'), Program.sb(5, 6, 2), Program.sb(5, 6, 9), Program.sb(5, 6, 10))
            .ok2(0, 0, 4, 1, 1, TEXT, 4)
            .ok2(0, 0, 1, 1, 1, Script.HANDLER, 0)
            .ok(2, 1, 1, 4, 0)
            .then(k -> {
                k.tick(2);
                Check.due("octet 0", k.console(1), 'a');
                Check.due("octet 1 without sign", k.console(0), 255);
            })
            .ok2(TEXT, 4, 4, 1, 1, TEXT + 7, 3)
            .then(k -> {
                k.tick(1);
                Check.due("octet 2 of another", k.console(0), 'c');
                Check.due("it writes on", k.count(4), 1);
            })
            .then(k -> {
                k.tick(1);
                Check.due("octet 3: too short", k.console(0), 0);
                Check.due("it is through", k.count(4), 0);
            })
            .upcall(4, 0, 0, 0)
            .play();
    }

    private static void noLongerOwn() {
        new Script("no longer OWN")
            .raw(Program.lui(5, 1), Program.addi(6, 0, 'x'), Program.sb(5, 6, 0), Program.sb(5, 6, 1))
            .ok2(0, 0, 4, 1, 1, TEXT, 2)
            .ok(2, 1, 1, 2, 0)
            .ok(5, 0, TEXT + 1, 0, 0)
            .then(k -> {
                k.tick(1);
                Check.due("octet 0, below the BREAK", k.console(0), 'x');
                k.tick(1);
                Check.due("octet 1, at the BREAK", k.console(0), 0);
                Check.due("word(4096) keeps it", k.word(4096), 'x' | 'x' << 8);
            })
            .play();
    }

    private static void leavesTheRow() {
        Program exits = new Program().need(256).call(4, 1, 1, 20, 9).call(2, 1, 1, 9, 0).call(6, 0, 0, 0, 0);
        Program faults = new Program().need(256).call(4, 1, 1, 172, 9).call(2, 1, 1, 9, 0).raw(0);
        GrantKernel k = Program.booted(0, 22, exits, faults, writing(264, 1), writing(376, 1));
        k.run(4);
        Check.due("four in the row", k.count(4), 4);
        k.tick(1);
        k.run(1);
        Check.due("EXIT leaves it", k.count(4), 3);
        k.run(1);
        Check.due("a FAULT leaves it", k.count(4), 2);
        k.tick(1);
        Check.due("the next one writes", k.console(0), flashOctet(k, k.look(2, 1) + 20));
        Check.due("one is left", k.count(4), 1);
    }

    /** CONSOLE 1: the first c octets, without sign, at most as many as are ALLOWED; c and that, next to each other. */
    private static void howMany() {
        int[] cs = {1, 4, 5, 6, Integer.MAX_VALUE, Integer.MIN_VALUE, -1};
        int[] due = {1, 4, 5, 5, 5, 5, 5};
        for (int i = 0; i < cs.length; i++) {
            int many = due[i];
            new Script("CONSOLE 1 with c " + cs[i])
                .ok2(0, 0, 1, 1, 1, Script.HANDLER, 9)
                .ok2(0, 0, 4, 1, 1, 20, 5)
                .ok(2, 1, 1, cs[i], 0).count(4, 1).count(3, 0).look(5, 0)
                .then(k -> {
                    for (int t = 1; t < many; t++) {
                        k.tick(1);
                        Check.due("octets", k.count(3), t);
                        Check.due("in the row", k.count(4), 1);
                    }
                })
                .look(5, 0)
                .then(k -> k.tick(1)).count(3, many).count(4, 0).look(5, 1)
                .then(k -> k.tick(9)).count(3, many)
                .upcall(many, 0, 0, 9)
                .play();
        }
    }

    /** CONSOLE 1: with none UPCALL 1 (0, 0, 0) at once, and it is in no row: c 0, nothing ALLOWED, 0 octets ALLOWED. */
    private static void noneAtOnce() {
        new Script("none")
            .ok2(0, 0, 1, 1, 1, Script.HANDLER, 9)
            .ok(2, 1, 1, 3, 0).look(5, 1).count(4, 0)
            .ok(2, 1, 1, -1, 0).look(5, 2).count(4, 0)
            .ok2(0, 0, 4, 1, 1, 20, 0)
            .ok(2, 1, 1, 3, 0).look(5, 3).count(4, 0)
            .ok2(20, 0, 4, 1, 1, 20, 4)
            .ok(2, 1, 1, 0, 0).look(5, 4).count(4, 0)
            .then(k -> k.tick(3)).count(3, 0).look(5, 4)
            .upcall(0, 0, 0, 9).upcall(0, 0, 0, 9).upcall(0, 0, 0, 9).upcall(0, 0, 0, 9)
            .noUpcall()
            .ok2(20, 4, 4, 1, 1, 0, 0)
            .ok2(0, 0, 4, 1, 0, 20, 4)
            .ok2(0, 0, 3, 1, 1, TEXT, 4)
            .ok(2, 1, 1, 4, 0).look(5, 1).count(4, 0)
            .play();
    }

    /** CONSOLE 1: NO 2 if it writes, first in the row or not, and nothing of what it writes changes. */
    private static void busyInTheRow() {
        Program first = new Program().need(256).call(4, 1, 1, 20, 9).call(2, 1, 1, 3, 0).loop();
        int header = 4 * first.size();
        Program second = new Program().need(256).call(4, 1, 1, header + 20, 9).call(2, 1, 1, 2, 0)
            .call(2, 1, 1, 5, 0).call(2, 1, 1, 0, 0).loop();
        GrantKernel k = Program.booted(0, 11, first, second);
        k.run(4);
        Check.due("two in the row", k.count(4), 2);
        for (int i = 0; i < 2; i++) {
            k.run(2);
            Check.due("NO 2: x10", k.register(1, 10), 0);
            Check.due("NO 2: x11", k.register(1, 11), 2);
            Check.due("two in the row still", k.count(4), 2);
        }
        k.tick(60);
        Check.due("3 and 2 octets", k.count(3), 5);
        Check.due("none in the row", k.count(4), 0);
        Check.due("the last one", k.console(0), flashOctet(k, header + 21));
    }

    /** 'All that write are in a row': in the order in which they asked, not by PROCESSES. */
    private static void rowByCommand() {
        Program first = new Program().need(256).call(0, 0, 0, 0, 0).call(4, 1, 1, 20, 1).call(2, 1, 1, 1, 0).loop();
        int header = 4 * first.size();
        Program second = new Program().need(256).call(4, 1, 1, header + 24, 1).call(2, 1, 1, 1, 0).loop();
        GrantKernel k = Program.booted(0, 11, first, second);
        k.run(6);
        Check.due("two in the row", k.count(4), 2);
        k.tick(1);
        Check.due("the second is first", k.console(0), flashOctet(k, header + 24));
        k.tick(1);
        Check.due("the first is second", k.console(0), flashOctet(k, 20));
    }

    /** Behind its last one it leaves the row, and comes in again at its end. */
    private static void backIntoTheRow() {
        Program first = new Program().need(256).call(4, 1, 1, 20, 1).call(2, 1, 1, 1, 0).call(0, 0, 0, 0, 0)
            .call(2, 1, 1, 1, 0).loop();
        int header = 4 * first.size();
        Program second = new Program().need(256).call(4, 1, 1, header + 24, 2).call(2, 1, 1, 2, 0).loop();
        GrantKernel k = Program.booted(0, 11, first, second);
        k.run(4);
        k.tick(1);
        Check.due("one is left", k.count(4), 1);
        k.run(4);
        Check.due("it is in the row again", k.count(4), 2);
        k.tick(2);
        Check.due("the second was before it", k.console(0), flashOctet(k, header + 25));
        Check.due("one is left again", k.count(4), 1);
        k.tick(1);
        Check.due("then it", k.console(0), flashOctet(k, 20));
        Check.due("none is left", k.count(4), 0);
    }

    /** The octet is the one that stands there when its TICK comes. */
    private static void octetsOfThen() {
        new Script("octets of then")
            .raw(Program.lui(5, 1), Program.addi(6, 0, 'a'), Program.sb(5, 6, 0), Program.sb(5, 6, 1))
            .ok2(0, 0, 4, 1, 1, TEXT, 2)
            .ok(2, 1, 1, 2, 0)
            .then(k -> k.tick(1))
            .raw(Program.addi(6, 0, 'z'), Program.sb(5, 6, 0), Program.sb(5, 6, 1))
            .noUpcall()
            .then(k -> {
                k.tick(1);
                Check.due("console(0)", k.console(0), 'z');
                Check.due("console(1)", k.console(1), 'a');
            })
            .play();
    }

    /** 'the next one of what is ALLOWED then (0 if that is too short': from one octet too few down to none. */
    private static void tooShort() {
        for (int octets = 0; octets <= 4; octets++) {
            int left = octets;
            new Script("ALLOWED are " + octets + " octets then")
                .ok2(0, 0, 1, 1, 1, Script.HANDLER, 9)
                .ok2(0, 0, 4, 1, 1, 20, 4)
                .ok(2, 1, 1, 4, 0)
                .then(k -> k.tick(1))
                .ok2(20, 4, 4, 1, 1, octets == 0 ? 0 : 24, octets)
                .then(k -> {
                    for (int i = 1; i < 4; i++) {
                        k.tick(1);
                        Check.due("octet " + i + " of " + left, k.console(0), i < left ? flashOctet(k, 24 + i) : 0);
                    }
                })
                .count(3, 4).count(4, 0)
                .upcall(4, 0, 0, 9)
                .play();
        }
    }

    /** 'or no longer OWN': the BREAK goes down below what is ALLOWED, and up again. */
    private static void ownAgain() {
        new Script("OWN again")
            .raw(Program.lui(5, 1), Program.addi(6, 0, 'x'), Program.sb(5, 6, 8), Program.sb(5, 6, 9),
                Program.sb(5, 6, 10))
            .ok2(0, 0, 1, 1, 1, Script.HANDLER, 9)
            .ok2(0, 0, 4, 1, 1, TEXT + 8, 3)
            .ok(2, 1, 1, 3, 0)
            .then(k -> {
                k.tick(1);
                Check.due("OWN", k.console(0), 'x');
            })
            .ok(5, 0, TEXT, 0, 0)
            .then(k -> {
                k.tick(1);
                Check.due("no longer OWN", k.console(0), 0);
            })
            .ok(5, 0, TEXT + 11, 0, 0)
            .then(k -> {
                k.tick(1);
                Check.due("OWN again", k.console(0), 'x');
            })
            .upcall(3, 0, 0, 9)
            .ok(2, 1, 1, 3, 0)
            .ok(5, 0, TEXT, 0, 0)
            .then(k -> {
                k.tick(3);
                Check.due("octet 0", k.console(2), 0);
                Check.due("octet 1", k.console(1), 0);
                Check.due("octet 2", k.console(0), 0);
            })
            .upcall(3, 0, 0, 9)
            .play();
    }

    /** The last octet of the WORDS and the last one below the BREAK are written. */
    private static void allowedBySize() {
        int end = 20 + 4 * (2 + 2 + 5 * Program.CALL_WORDS);
        new Script("the last octets")
            .raw(Program.addi(6, 0, 'q'), Program.sb(2, 6, -1))
            .ok2(0, 0, 4, 1, 1, TEXT + 127, 1)
            .ok(2, 1, 1, 1, 0)
            .then(k -> {
                k.tick(1);
                Check.due("the last below the BREAK", k.console(0), 'q');
            })
            .no2(6, 4, 1, 1, TEXT + 127, 2)
            .ok2(TEXT + 127, 1, 4, 1, 1, end - 4, 4)
            .ok(2, 1, 1, 4, 0)
            .then(k -> {
                k.tick(4);
                for (int i = 0; i < 4; i++) {
                    Check.due("the last WORD's octet " + i, k.console(3 - i), flashOctet(k, end - 4 + i));
                }
                Check.due("the last is of its loop", k.console(3), 0x6F);
            })
            .play();
    }

    /** Promise 12: the latest 32 are kept, over several writes and PROCESSES. */
    private static void keptBehindMany() {
        for (int many = 30; many <= 34; many++) {
            GrantKernel k = Program.booted(0, 22, writing(0, many - 10), writing(112, 10));
            k.run(2);
            k.tick(many);
            Check.due("written", k.count(3), many);
            int kept = Math.min(many, 32);
            for (int i = 0; i < kept; i++) {
                int at = i < 10 ? 112 + 20 + 9 - i : 20 + many - 1 - i;
                Check.due("console(" + i + ") of " + many, k.console(i), flashOctet(k, at));
            }
            Check.thrown("console(" + kept + ") of " + many, IndexOutOfBoundsException.class, () -> k.console(kept));
            Check.thrown("console(33) of " + many, IndexOutOfBoundsException.class, () -> k.console(33));
        }
    }
}
