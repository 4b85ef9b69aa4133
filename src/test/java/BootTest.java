/** Promise 3, and HEADERS and what a PROCESS STARTS with. */
public final class BootTest {
    public static void main(String[] args) {
        headers();
        xorOfAllFive();
        sizeUpToWhatIsLeft();
        whichArePrograms();
        fewerThanFour();
        ramLeft();
        whatItStartsWith();
        allAsAtFirst();
        ramOfNoBlock();
        driversForget();
        needs();
        entries();
        noHeaderEndsIt();
        flagsEven();
        ramJustEnough();
        fifth();
        lastWords();
        firstTurnBehindBoot();
        Check.done();
    }

    private static int found(int size, int flags, int need, int entry) {
        GrantKernel k = new GrantKernel();
        int[] words = {size, flags, need, entry, size ^ flags ^ need ^ entry};
        for (int i = 0; i < 5; i++) {
            k.flash(i, words[i]);
        }
        return k.boot();
    }

    private static void header(int want, int size, int flags, int need, int entry) {
        Check.due("HEADER " + size + " " + flags + " " + need + " " + entry, found(size, flags, need, entry), want);
    }

    private static void headers() {
        header(1, 6, 1, 64, 20);
        header(0, 5, 1, 64, 20);
        header(0, 4, 1, 64, 20);
        header(0, 0, 1, 64, 20);
        header(0, -6, 1, 64, 20);
        header(1, 512, 1, 64, 20);
        header(0, 513, 1, 64, 20);
        header(0, Integer.MAX_VALUE, 1, 64, 20);
        header(0, Integer.MIN_VALUE, 1, 64, 20);
        header(1, 6, -1, 64, 20);
        header(1, 6, 3, 64, 20);
        header(0, 6, 0, 64, 20);
        header(0, 6, 2, 64, 20);
        header(0, 6, 1, 48, 20);
        header(0, 6, 1, 63, 20);
        header(0, 6, 1, 72, 20);
        header(1, 6, 1, 80, 20);
        header(1, 6, 1, 2048, 20);
        header(0, 6, 1, 2064, 20);
        header(0, 6, 1, 0, 20);
        header(0, 6, 1, -64, 20);
        header(0, 6, 1, 64, 16);
        header(0, 6, 1, 64, 0);
        header(0, 7, 1, 64, 22);
        header(0, 7, 1, 64, 21);
        header(1, 7, 1, 64, 24);
        header(0, 7, 1, 64, 28);
        header(0, 6, 1, 64, 24);
        header(0, 6, 1, 64, -20);
        header(0, 6, 1, 64, Integer.MAX_VALUE - 3);
    }

    private static void xorOfAllFive() {
        for (int i = 0; i < 5; i++) {
            GrantKernel k = new GrantKernel();
            new Program().loop().loop().into(k, 0);
            k.flash(i, k.flash(i, 0) ^ 0x40000000);
            Check.due("boot() with a bit turned in WORD " + i, k.boot(), 0);
        }
    }

    private static void sizeUpToWhatIsLeft() {
        for (int at = 505; at <= 508; at++) {
            GrantKernel k = new GrantKernel();
            int[] first = {at, 0, 64, 20, at ^ 64 ^ 20};
            int[] last = {6, 1, 64, 20, 6 ^ 1 ^ 64 ^ 20};
            for (int i = 0; i < 5; i++) {
                k.flash(i, first[i]);
                if (at + i < 512) {
                    k.flash(at + i, last[i]);
                }
            }
            Check.due("boot() with the last HEADER at " + at, k.boot(), at <= 506 ? 1 : 0);
        }
        GrantKernel whole = new GrantKernel();
        int[] all = {512, 1, 64, 2044, 512 ^ 1 ^ 64 ^ 2044};
        for (int i = 0; i < 5; i++) {
            whole.flash(i, all[i]);
        }
        Check.due("boot() of all FLASH", whole.boot(), 1);
        Check.due("PC at the last WORD", whole.register(0, 32), 2044);
    }

    private static void whichArePrograms() {
        GrantKernel k = new GrantKernel();
        int second = new Program().flags(2).need(2048).loop().into(k, 0);
        int third = new Program().flags(5).need(128).raw(0, 0, 0).into(k, second);
        int fourth = new Program().flags(4).loop().into(k, third);
        int end = new Program().flags(1).need(64).loop().into(k, fourth);
        new Program().loop().into(k, end + 1);
        Check.due("boot() with even FLAGS and a gap", k.boot(), 2);
        Check.due("HEADER of 0", k.look(0, 1), 4 * second);
        Check.due("BLOCK of 0", k.look(0, 2), 4096);
        Check.due("HEADER of 1", k.look(1, 1), 4 * fourth);
        Check.due("BLOCK of 1", k.look(1, 2), 4096 + 128);
    }

    private static void fewerThanFour() {
        GrantKernel k = new GrantKernel();
        int at = 0;
        for (int i = 0; i < 6; i++) {
            at = new Program().need(64).loop().into(k, at);
        }
        Check.due("boot() with six", k.boot(), 4);
        Check.due("count(0)", k.count(0), 4);
        Check.due("BLOCK of 3", k.look(3, 2), 4096 + 192);
        Check.due("HEADER of 3", k.look(3, 1), 3 * 24);
    }

    private static void ramLeft() {
        GrantKernel k = new GrantKernel();
        int[] needs = {2048, 1024, 1040, 1024, 64};
        int at = 0;
        for (int need : needs) {
            at = new Program().need(need).loop().into(k, at);
        }
        Check.due("boot() with too little RAM for some", k.boot(), 3);
        Check.due("HEADER of 2, behind one too big", k.look(2, 1), 3 * 24);
        Check.due("BLOCK of 2", k.look(2, 2), 4096 + 3072);
        Check.due("LOW of 2, the end of RAM", k.look(2, 4), 8192);
    }

    private static void whatItStartsWith() {
        GrantKernel k = Program.booted(0, 8,
            new Program().need(64).loop(), new Program().need(80).raw(0, 0).entry(24).loop());
        int[] due = new int[33];
        due[2] = 4160 + 40;
        due[10] = 24;
        due[11] = 4160;
        due[12] = 80;
        due[13] = 4160 + 40;
        due[32] = 24 + 24;
        for (int r = 0; r <= 32; r++) {
            Check.due("register(1, " + r + ") at first", k.register(1, r), due[r]);
        }
        int[] look = {GrantKernel.READY, 24, 4160, 4200, 4240, 0, 1, 0, 0, 0, 0, 0};
        for (int what = 0; what < 12; what++) {
            Check.due("look(1, " + what + ") at first", k.look(1, what), look[what]);
        }
    }

    private static void ramOfNoBlock() {
        GrantKernel k = Program.booted(0, 50, new Program().need(64).li(5, 4096).raw(Program.sw(5, 5, 28)).loop());
        k.run(1);
        Check.due("word(4124)", k.word(4124), 4096);
        k.halt();
        Check.due("RAM stays halted", k.word(4124), 4096);
        k.flash(0, 0);
        Check.due("boot() of none", k.boot(), 0);
        Check.due("RAM of no BLOCK", k.word(4124), 0);
    }

    /** SUBSCRIBES first, and asks for an alarm and a BUTTON only in a later turn. */
    private static void driversForget() {
        Program p = new Program().call(1, 0, 0, 20, 0).call(1, 2, 0, 20, 0).call(2, 0, 2, 3, 0).call(2, 2, 1, 1, 0)
            .loop();
        GrantKernel k = Program.booted(0, 22, p);
        k.run(2);
        k.tick(3);
        for (int i = 0; i < 5; i++) {
            k.press(1, i % 2 == 0);
        }
        Check.due("queued", k.look(0, 5), 4);
        Check.due("lost", k.look(0, 8), 2);
        k.boot();
        Check.due("lost behind boot()", k.look(0, 8), 0);
        k.run(2);
        k.boot();
        k.run(1);
        Check.due("GRANTS", k.look(0, 11), 5);
        k.tick(5);
        k.press(1, true);
        Check.due("no alarm and no BUTTON is wanted behind boot()", k.look(0, 5), 0);
        Program done = new Program().call(1, 2, 0, 20, 0).call(2, 2, 1, 1, 0).call(0, 1, 0, 0, 0);
        GrantKernel d = Program.booted(0, 33, done);
        d.run(1);
        d.press(1, true);
        Check.due("DONE", d.look(0, 9), 1);
        d.boot();
        Check.due("DONE behind boot()", d.look(0, 9), 0);
    }

    /** A PROCESS that leaves traces everywhere, then BOOT again, halted or not. */
    private static void allAsAtFirst() {
        for (int round = 0; round < 2; round++) {
            Program p = new Program().need(256)
                .call(1, 1, 1, 20, 1).call(4, 1, 1, 20, 40).call(2, 1, 1, 40, 0)
                .call(2, 3, 2, 1, 1).call(2, 0, 2, 5, 0).call(2, 2, 1, 1, 0)
                .li(5, 4096).raw(Program.sw(5, 5, 0)).loop();
            GrantKernel k = Program.booted(1, 50, p);
            k.run(2);
            k.tick(3);
            k.press(2, true);
            Check.due("a trace in RAM", k.word(4096), 4096);
            Check.due("a trace on the CONSOLE", k.count(4), 1);
            Check.due("a trace in the STORE", k.count(5), 1);
            if (round == 1) {
                k.halt();
            }
            Check.due("boot() again", k.boot(), 1);
            Check.due("RAM", k.word(4096), 0);
            for (int what = 1; what <= 5; what++) {
                Check.due("count(" + what + ") behind boot()", k.count(what), 0);
            }
            Check.due("count(6) behind boot()", k.count(6), -1);
            Check.due("LOW", k.look(0, 4), 4352);
            Check.due("STARTED", k.look(0, 6), 1);
            Check.due("system calls", k.look(0, 10), 0);
            Check.due("GRANTS", k.look(0, 11), 0);
            Check.thrown("console(0) behind boot()", IndexOutOfBoundsException.class, () -> k.console(0));
            Check.due("a BUTTON is let go", k.press(2, true), true);
            k.tick(5);
            Check.due("no alarm, no writer", k.count(3), 0);
            Check.due("SLICE stays", k.run(1), 50);
        }
        GrantKernel f = Program.booted(2, 5, new Program().raw(0));
        f.run(60);
        Check.due("STARTED with POLICY 2", f.look(0, 6), 3);
        f.boot();
        Check.due("READY behind boot()", f.look(0, 0), GrantKernel.READY);
        Check.due("FAULTS behind boot()", f.look(0, 7), 0);
        f.run(60);
        Check.due("POLICY stays, and its count begins anew", f.look(0, 6), 3);
    }

    /** HEADER: NEED is 64..2048, a multiple of 16. */
    private static void needs() {
        for (int need = 0; need <= 2112; need++) {
            boolean fits = need == 64 || need == 80 || need > 64 && need < 2048 && need % 16 == 0 || need == 2048;
            if (need < 100 || need > 2000) {
                header(fits ? 1 : 0, 6, 1, need, 20);
            }
        }
        header(0, 6, 1, 4096, 20);
        header(0, 6, 1, Integer.MIN_VALUE, 20);
        header(0, 6, 1, Integer.MIN_VALUE + 64, 20);
        header(0, 6, 1, -16, 20);
        header(0, 6, 1, Integer.MAX_VALUE - 15, 20);
    }

    /** HEADER: ENTRY is a multiple of 4, 20 or more, below 4 SIZE. */
    private static void entries() {
        for (int size = 5; size <= 9; size++) {
            for (int entry = -4; entry <= 4 * size + 4; entry++) {
                boolean fits = entry >= 20 && entry < 4 * size && entry % 4 == 0;
                header(fits ? 1 : 0, size, 1, 64, entry);
            }
        }
        header(1, 512, 1, 64, 2044);
        header(0, 512, 1, 64, 2048);
        header(0, 6, 1, 64, Integer.MIN_VALUE);
        header(0, 6, 1, 64, Integer.MIN_VALUE + 20);
    }

    private static void write(GrantKernel k, int at, int... words) {
        for (int i = 0; i < words.length; i++) {
            k.flash(at + i, words[i]);
        }
    }

    /** BOOT: as long as a HEADER stands there, even if it would be no PROCESS; then it is over. */
    private static void noHeaderEndsIt() {
        int[][] seconds = {{6, 0, 64, 20}, {6, 0, 48, 20}, {6, 0, 72, 20}, {6, 0, 2064, 20}, {6, 0, 64, 16},
            {6, 0, 64, 24}, {6, 0, 64, 22}, {5, 0, 64, 20}};
        for (int i = 0; i < seconds.length; i++) {
            GrantKernel k = new GrantKernel();
            int second = new Program().need(64).loop().into(k, 0);
            int[] s = seconds[i];
            write(k, second, s[0], s[1], s[2], s[3], s[0] ^ s[1] ^ s[2] ^ s[3]);
            new Program().need(64).loop().into(k, second + s[0]);
            Check.due("boot() behind the HEADER " + i, k.boot(), i == 0 ? 2 : 1);
        }
        GrantKernel xor = new GrantKernel();
        write(xor, 0, 6, 0, 64, 20, 6 ^ 64 ^ 20 ^ 1);
        new Program().need(64).loop().into(xor, 6);
        Check.due("boot() behind an exclusive or that is not 0", xor.boot(), 0);
    }

    /** BOOT: with even FLAGS it is no PROCESS, takes no RAM and no number; only the lowest bit counts. */
    private static void flagsEven() {
        int[] flags = {0, 2, -2, Integer.MIN_VALUE, 0x7FFFFFFE, 1, 3, -1, Integer.MIN_VALUE + 1, Integer.MAX_VALUE};
        for (int f : flags) {
            GrantKernel k = new GrantKernel();
            int at = new Program().need(128).flags(f).loop().into(k, 0);
            new Program().need(64).loop().into(k, at);
            boolean odd = f % 2 != 0;
            Check.due("boot() with FLAGS " + f, k.boot(), odd ? 2 : 1);
            Check.due("BLOCK of the last with FLAGS " + f, k.look(odd ? 1 : 0, 2), odd ? 4224 : 4096);
            Check.due("HEADER of 0 with FLAGS " + f, k.look(0, 1), odd ? 0 : 24);
        }
    }

    /** BOOT: NEED octets of RAM are left, or 16 too few; what is behind may still fit. */
    private static void ramJustEnough() {
        int[][] needs = {{2048, 2048}, {2048, 1984, 64}, {2048, 2000, 64}, {2048, 1984, 80}, {2048, 1984, 80, 64},
            {2048, 2048, 64}, {2048, 2032, 64, 64}, {1024, 1024, 1024, 1024}, {1024, 1024, 1024, 1040}};
        int[] due = {2, 3, 2, 2, 3, 2, 2, 4, 3};
        int[] ends = {8192, 8192, 8144, 8128, 8192, 8192, 8176, 8192, 7168};
        for (int i = 0; i < needs.length; i++) {
            GrantKernel k = new GrantKernel();
            int at = 0;
            for (int need : needs[i]) {
                at = new Program().need(need).loop().into(k, at);
            }
            Check.due("boot() with the NEEDS " + i, k.boot(), due[i]);
            Check.due("LOW of the last with the NEEDS " + i, k.look(due[i] - 1, 4), ends[i]);
        }
    }

    /** BOOT: fewer than 4 PROCESSES; those of even FLAGS or too great a NEED do not count. */
    private static void fifth() {
        for (int many = 0; many <= 6; many++) {
            GrantKernel k = new GrantKernel();
            int at = new Program().flags(2).need(64).loop().into(k, 0);
            for (int i = 0; i < many; i++) {
                at = new Program().need(64).loop().into(k, at);
                at = new Program().flags(4).need(2048).loop().into(k, at);
            }
            int due = Math.min(many, 4);
            Check.due("boot() with " + many, k.boot(), due);
            Check.due("count(0) with " + many, k.count(0), due);
            Check.due("halt() with " + many, k.halt(), due);
            if (due > 0) {
                Check.due("HEADER of the last of " + many, k.look(due - 1, 1), 24 + 48 * (due - 1));
            }
        }
    }

    /** HEADER: five WORDS, the last of which may not lie beyond FLASH. */
    private static void lastWords() {
        for (int at = 500; at <= 512; at++) {
            GrantKernel k = new GrantKernel();
            write(k, 0, at, 1, 64, 20, at ^ 1 ^ 64 ^ 20);
            int left = 512 - at;
            int[] last = {left, 1, 64, 20, left ^ 1 ^ 64 ^ 20};
            for (int i = 0; i < Math.min(5, left); i++) {
                k.flash(at + i, last[i]);
            }
            Check.due("boot() with a HEADER of all that is left at " + at, k.boot(), at <= 506 ? 2 : 1);
            if (at <= 506) {
                Check.due("its last WORD is OWN: run(2)", k.run(2), 2);
                Check.due("its HEADER", k.look(1, 1), 4 * at);
            }
        }
    }

    /** TURN: first 0, also behind another boot(). */
    private static void firstTurnBehindBoot() {
        GrantKernel k = Program.booted(0, 3, new Program().need(64).loop(), new Program().need(64).loop());
        k.run(1);
        Check.due("the first turn", k.count(6), 0);
        k.boot();
        Check.due("no turn yet", k.count(6), -1);
        k.run(1);
        Check.due("the first turn behind boot()", k.count(6), 0);
        k.run(1);
        Check.due("the second turn behind boot()", k.count(6), 1);
    }
}
