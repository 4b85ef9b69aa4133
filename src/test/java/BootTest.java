/** Promise 3, and HEADERS and what a PROCESS STARTS with. */
public final class BootTest {
    public static void main(String[] args) {
        headers();
        xorOfAllFive();
        sizeUpToWhatIsLeft();
        whichArePrograms();
        fewerThanFour();
        ramLeft();
        whatItStartsWith();
        allAsAtFirst();
        ramOfNoBlock();
        driversForget();
        Check.done();
    }

    private static int found(int size, int flags, int need, int entry) {
        GrantKernel k = new GrantKernel();
        int[] words = {size, flags, need, entry, size ^ flags ^ need ^ entry};
        for (int i = 0; i < 5; i++) {
            k.flash(i, words[i]);
        }
        return k.boot();
    }

    private static void header(int want, int size, int flags, int need, int entry) {
        Check.due("HEADER " + size + " " + flags + " " + need + " " + entry, found(size, flags, need, entry), want);
    }

    private static void headers() {
        header(1, 6, 1, 64, 20);
        header(0, 5, 1, 64, 20);
        header(0, 4, 1, 64, 20);
        header(0, 0, 1, 64, 20);
        header(0, -6, 1, 64, 20);
        header(1, 512, 1, 64, 20);
        header(0, 513, 1, 64, 20);
        header(0, Integer.MAX_VALUE, 1, 64, 20);
        header(0, Integer.MIN_VALUE, 1, 64, 20);
        header(1, 6, -1, 64, 20);
        header(1, 6, 3, 64, 20);
        header(0, 6, 0, 64, 20);
        header(0, 6, 2, 64, 20);
        header(0, 6, 1, 48, 20);
        header(0, 6, 1, 63, 20);
        header(0, 6, 1, 72, 20);
        header(1, 6, 1, 80, 20);
        header(1, 6, 1, 2048, 20);
        header(0, 6, 1, 2064, 20);
        header(0, 6, 1, 0, 20);
        header(0, 6, 1, -64, 20);
        header(0, 6, 1, 64, 16);
        header(0, 6, 1, 64, 0);
        header(0, 7, 1, 64, 22);
        header(0, 7, 1, 64, 21);
        header(1, 7, 1, 64, 24);
        header(0, 7, 1, 64, 28);
        header(0, 6, 1, 64, 24);
        header(0, 6, 1, 64, -20);
        header(0, 6, 1, 64, Integer.MAX_VALUE - 3);
    }

    private static void xorOfAllFive() {
        for (int i = 0; i < 5; i++) {
            GrantKernel k = new GrantKernel();
            new Program().loop().loop().into(k, 0);
            k.flash(i, k.flash(i, 0) ^ 0x40000000);
            Check.due("boot() with a bit turned in WORD " + i, k.boot(), 0);
        }
    }

    private static void sizeUpToWhatIsLeft() {
        for (int at = 505; at <= 508; at++) {
            GrantKernel k = new GrantKernel();
            int[] first = {at, 0, 64, 20, at ^ 64 ^ 20};
            int[] last = {6, 1, 64, 20, 6 ^ 1 ^ 64 ^ 20};
            for (int i = 0; i < 5; i++) {
                k.flash(i, first[i]);
                if (at + i < 512) {
                    k.flash(at + i, last[i]);
                }
            }
            Check.due("boot() with the last HEADER at " + at, k.boot(), at <= 506 ? 1 : 0);
        }
        GrantKernel whole = new GrantKernel();
        int[] all = {512, 1, 64, 2044, 512 ^ 1 ^ 64 ^ 2044};
        for (int i = 0; i < 5; i++) {
            whole.flash(i, all[i]);
        }
        Check.due("boot() of all FLASH", whole.boot(), 1);
        Check.due("PC at the last WORD", whole.register(0, 32), 2044);
    }

    private static void whichArePrograms() {
        GrantKernel k = new GrantKernel();
        int second = new Program().flags(2).need(2048).loop().into(k, 0);
        int third = new Program().flags(5).need(128).raw(0, 0, 0).into(k, second);
        int fourth = new Program().flags(4).loop().into(k, third);
        int end = new Program().flags(1).need(64).loop().into(k, fourth);
        new Program().loop().into(k, end + 1);
        Check.due("boot() with even FLAGS and a gap", k.boot(), 2);
        Check.due("HEADER of 0", k.look(0, 1), 4 * second);
        Check.due("BLOCK of 0", k.look(0, 2), 4096);
        Check.due("HEADER of 1", k.look(1, 1), 4 * fourth);
        Check.due("BLOCK of 1", k.look(1, 2), 4096 + 128);
    }

    private static void fewerThanFour() {
        GrantKernel k = new GrantKernel();
        int at = 0;
        for (int i = 0; i < 6; i++) {
            at = new Program().need(64).loop().into(k, at);
        }
        Check.due("boot() with six", k.boot(), 4);
        Check.due("count(0)", k.count(0), 4);
        Check.due("BLOCK of 3", k.look(3, 2), 4096 + 192);
        Check.due("HEADER of 3", k.look(3, 1), 3 * 24);
    }

    private static void ramLeft() {
        GrantKernel k = new GrantKernel();
        int[] needs = {2048, 1024, 1040, 1024, 64};
        int at = 0;
        for (int need : needs) {
            at = new Program().need(need).loop().into(k, at);
        }
        Check.due("boot() with too little RAM for some", k.boot(), 3);
        Check.due("HEADER of 2, behind one too big", k.look(2, 1), 3 * 24);
        Check.due("BLOCK of 2", k.look(2, 2), 4096 + 3072);
        Check.due("LOW of 2, the end of RAM", k.look(2, 4), 8192);
    }

    private static void whatItStartsWith() {
        GrantKernel k = Program.booted(0, 8,
            new Program().need(64).loop(), new Program().need(80).raw(0, 0).entry(24).loop());
        int[] due = new int[33];
        due[2] = 4160 + 40;
        due[10] = 24;
        due[11] = 4160;
        due[12] = 80;
        due[13] = 4160 + 40;
        due[32] = 24 + 24;
        for (int r = 0; r <= 32; r++) {
            Check.due("register(1, " + r + ") at first", k.register(1, r), due[r]);
        }
        int[] look = {GrantKernel.READY, 24, 4160, 4200, 4240, 0, 1, 0, 0, 0, 0, 0};
        for (int what = 0; what < 12; what++) {
            Check.due("look(1, " + what + ") at first", k.look(1, what), look[what]);
        }
    }

    private static void ramOfNoBlock() {
        GrantKernel k = Program.booted(0, 50, new Program().need(64).li(5, 4096).raw(Program.sw(5, 5, 28)).loop());
        k.run(1);
        Check.due("word(4124)", k.word(4124), 4096);
        k.halt();
        Check.due("RAM stays halted", k.word(4124), 4096);
        k.flash(0, 0);
        Check.due("boot() of none", k.boot(), 0);
        Check.due("RAM of no BLOCK", k.word(4124), 0);
    }

    /** SUBSCRIBES first, and asks for an alarm and a BUTTON only in a later turn. */
    private static void driversForget() {
        Program p = new Program().call(1, 0, 0, 20, 0).call(1, 2, 0, 20, 0).call(2, 0, 2, 3, 0).call(2, 2, 1, 1, 0)
            .loop();
        GrantKernel k = Program.booted(0, 22, p);
        k.run(2);
        k.tick(3);
        for (int i = 0; i < 5; i++) {
            k.press(1, i % 2 == 0);
        }
        Check.due("queued", k.look(0, 5), 4);
        Check.due("lost", k.look(0, 8), 2);
        k.boot();
        Check.due("lost behind boot()", k.look(0, 8), 0);
        k.run(2);
        k.boot();
        k.run(1);
        Check.due("GRANTS", k.look(0, 11), 5);
        k.tick(5);
        k.press(1, true);
        Check.due("no alarm and no BUTTON is wanted behind boot()", k.look(0, 5), 0);
        Program done = new Program().call(1, 2, 0, 20, 0).call(2, 2, 1, 1, 0).call(0, 1, 0, 0, 0);
        GrantKernel d = Program.booted(0, 33, done);
        d.run(1);
        d.press(1, true);
        Check.due("DONE", d.look(0, 9), 1);
        d.boot();
        Check.due("DONE behind boot()", d.look(0, 9), 0);
    }

    /** A PROCESS that leaves traces everywhere, then BOOT again, halted or not. */
    private static void allAsAtFirst() {
        for (int round = 0; round < 2; round++) {
            Program p = new Program().need(256)
                .call(1, 1, 1, 20, 1).call(4, 1, 1, 20, 40).call(2, 1, 1, 40, 0)
                .call(2, 3, 2, 1, 1).call(2, 0, 2, 5, 0).call(2, 2, 1, 1, 0)
                .li(5, 4096).raw(Program.sw(5, 5, 0)).loop();
            GrantKernel k = Program.booted(1, 50, p);
            k.run(2);
            k.tick(3);
            k.press(2, true);
            Check.due("a trace in RAM", k.word(4096), 4096);
            Check.due("a trace on the CONSOLE", k.count(4), 1);
            Check.due("a trace in the STORE", k.count(5), 1);
            if (round == 1) {
                k.halt();
            }
            Check.due("boot() again", k.boot(), 1);
            Check.due("RAM", k.word(4096), 0);
            for (int what = 1; what <= 5; what++) {
                Check.due("count(" + what + ") behind boot()", k.count(what), 0);
            }
            Check.due("count(6) behind boot()", k.count(6), -1);
            Check.due("LOW", k.look(0, 4), 4352);
            Check.due("STARTED", k.look(0, 6), 1);
            Check.due("system calls", k.look(0, 10), 0);
            Check.due("GRANTS", k.look(0, 11), 0);
            Check.thrown("console(0) behind boot()", IndexOutOfBoundsException.class, () -> k.console(0));
            Check.due("a BUTTON is let go", k.press(2, true), true);
            k.tick(5);
            Check.due("no alarm, no writer", k.count(3), 0);
            Check.due("SLICE stays", k.run(1), 50);
        }
        GrantKernel f = Program.booted(2, 5, new Program().raw(0));
        f.run(60);
        Check.due("STARTED with POLICY 2", f.look(0, 6), 3);
        f.boot();
        Check.due("READY behind boot()", f.look(0, 0), GrantKernel.READY);
        Check.due("FAULTS behind boot()", f.look(0, 7), 0);
        f.run(60);
        Check.due("POLICY stays, and its count begins anew", f.look(0, 6), 3);
    }
}
