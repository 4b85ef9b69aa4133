/** OWN addresses, FAULTS, and that nothing is done by an instruction that FAULTS. */
public final class OwnTest {
    private static final int BLOCK = 4096 + 64;
    private static final int BREAK = BLOCK + 64;

    public static void main(String[] args) {
        loads();
        stores();
        taking();
        oddBreak();
        anewOrNot();
        whatGoes();
        wholeBlockCleared();
        negativeOffset();
        nothingSubscribedOrAllowed();
        offsets();
        breakAtTheBeginning();
        breakAtTheEnd();
        breakAtLow();
        takenFromWithin();
        endOfFlash();
        Check.done();
    }

    /** A neighbour before and one behind, so that their addresses are there but not OWN. */
    private static GrantKernel among(int address, int... instructions) {
        Program p = new Program().need(128).li(5, address).li(7, 77).raw(instructions).loop();
        Program neighbour = new Program().need(64).loop();
        GrantKernel k = Program.booted(0, 5, neighbour, p, neighbour);
        k.ways(0, 4);
        k.run(2);
        k.ways(0, 1);
        k.run(2);
        Check.due("it is done", k.run(1), 1);
        return k;
    }

    private static final int HEADER = 24;
    private static final int CODE = HEADER + 20;
    private static final int CODE_END = CODE + 4 * 6;

    private static void load(boolean own, int f3, int address) {
        GrantKernel k = among(address, Program.load(f3, 7, 5, 0));
        String name = "load " + f3 + " from " + address;
        Check.due(name, k.look(1, 0), own ? GrantKernel.READY : GrantKernel.FAULTED);
        Check.due(name + ": FAULTS", k.look(1, 7), own ? 0 : 1);
        Check.due(name + ": PC", k.register(1, 32), CODE + (own ? 20 : 16));
        if (!own) {
            Check.due(name + ": x7", k.register(1, 7), 77);
        }
    }

    private static void loads() {
        int[] wide = {0, 1, 2, 4, 5};
        for (int f3 : wide) {
            int size = 1 << (f3 & 3);
            load(true, f3, BLOCK);
            load(false, f3, BLOCK - size);
            load(true, f3, BREAK - size);
            load(false, f3, BREAK);
            load(true, f3, CODE);
            load(false, f3, CODE - size);
            load(true, f3, CODE_END - size);
            load(false, f3, CODE_END);
            load(false, f3, HEADER);
            load(false, f3, 0);
            load(false, f3, 2048);
            load(false, f3, 4096);
            load(false, f3, 8192);
            load(false, f3, -size);
            load(false, f3, Integer.MIN_VALUE);
            for (int off = 1; off < 4; off++) {
                load(off % size == 0, f3, BLOCK + 8 + off);
                load(off % size == 0, f3, CODE + off);
            }
        }
        load(false, 2, 0x80001000 + 64);
    }

    private static void store(boolean own, int f3, int address) {
        GrantKernel k = among(address, Program.typeS(f3, 5, 7, 0));
        String name = "store " + f3 + " to " + address;
        Check.due(name, k.look(1, 0), own ? GrantKernel.READY : GrantKernel.FAULTED);
        Check.due(name + ": PC", k.register(1, 32), CODE + (own ? 20 : 16));
        for (int at = 4096; at < 4096 + 256; at += 4) {
            boolean here = own && (address & ~3) == at;
            Check.due(name + ": word(" + at + ")", k.word(at), here ? 77 << 8 * (address & 3) : 0);
        }
    }

    private static void stores() {
        for (int f3 = 0; f3 < 3; f3++) {
            int size = 1 << f3;
            store(true, f3, BLOCK);
            store(false, f3, BLOCK - size);
            store(true, f3, BREAK - size);
            store(false, f3, BREAK);
            store(false, f3, BLOCK + 128 - size);
            store(false, f3, BLOCK + 128);
            store(false, f3, CODE);
            store(false, f3, HEADER);
            store(false, f3, 4096);
            store(false, f3, -4);
            for (int off = 1; off < 4; off++) {
                store(off % size == 0, f3, BLOCK + 8 + off);
            }
        }
    }

    private static void take(boolean own, int goal) {
        GrantKernel k = among(goal, Program.jalr(0, 5, 0));
        Check.due("jump to " + goal, k.register(1, 32), goal & ~1);
        k.run(2);
        Check.due("taken from " + goal, k.run(1), 1);
        Check.due("how it stands, taken from " + goal, k.look(1, 0), own ? GrantKernel.READY : GrantKernel.FAULTED);
        if (!own) {
            Check.due("PC stays at " + goal, k.register(1, 32), goal & ~1);
        }
    }

    private static void taking() {
        take(true, CODE);
        take(true, CODE + 1);
        take(false, CODE + 2);
        take(false, CODE + 3);
        take(false, CODE - 4);
        take(false, HEADER);
        take(true, CODE_END - 4);
        take(false, CODE_END);
        take(false, BLOCK);
        take(false, 20);
        take(false, 4096);
        take(false, -4);
        take(false, Integer.MIN_VALUE + CODE);
    }

    /** With a BREAK in the middle of a WORD the WORD is not OWN, but octets of it are. */
    private static void oddBreak() {
        int[] f3s = {0, 1, 2};
        boolean[][] own = {{false, false, false}, {true, false, false}, {true, true, false}, {true, true, false},
            {true, true, true}};
        for (int more = 0; more <= 4; more++) {
            for (int f3 : f3s) {
                Program p = new Program().need(64).call(5, 0, 4100 + more, 0, 0).li(5, 4100)
                    .raw(Program.load(f3, 7, 5, 0)).loop();
                GrantKernel k = Program.booted(0, 14, p);
                k.run(1);
                Check.due("load " + f3 + " with BREAK " + (4100 + more), k.look(0, 0),
                    own[more][f3] ? GrantKernel.READY : GrantKernel.FAULTED);
            }
        }
    }

    private static void anewOrNot() {
        Program p = new Program().need(128).call(5, 1, 8, 0, 0).call(2, 0, 1, 0, 0).li(5, 4096)
            .raw(Program.sw(5, 5, 0), Program.addi(31, 0, 9), Program.sw(0, 5, 0));
        GrantKernel k = Program.booted(1, 26, p);
        k.run(1);
        Check.due("before: RAM", k.word(4096), 4096);
        Check.due("before: BREAK", k.look(0, 3), 4096 + 72);
        Check.due("before: LOW", k.look(0, 4), 4096 + 96);
        Check.due("the FAULT alone", k.run(1), 1);
        Check.due("anew: stands", k.look(0, 0), GrantKernel.READY);
        Check.due("anew: RAM", k.word(4096), 0);
        Check.due("anew: BREAK", k.look(0, 3), 4096 + 64);
        Check.due("anew: LOW", k.look(0, 4), 4096 + 128);
        Check.due("anew: GRANTS", k.look(0, 11), 0);
        int[] due = new int[33];
        due[2] = 4160;
        due[11] = 4096;
        due[12] = 128;
        due[13] = 4160;
        due[32] = 20;
        for (int r = 0; r <= 32; r++) {
            Check.due("anew: register " + r, k.register(0, r), due[r]);
        }
        k.run(2);
        Check.due("again: stands", k.look(0, 0), GrantKernel.FAULTED);
        Check.due("again: RAM stays", k.word(4096), 4096);
        Check.due("again: x31 stays", k.register(0, 31), 9);
        Check.due("again: PC stays", k.register(0, 32), 20 + 26 * 4);
        Check.due("again: FAULTS", k.look(0, 7), 2);
        Check.due("again: STARTED", k.look(0, 6), 2);
    }

    /** The second's BLOCK, up to a BREAK at its end, and not the first's. */
    private static void wholeBlockCleared() {
        Program first = new Program().need(64).li(5, 4096).raw(Program.sw(5, 5, 0), Program.sw(5, 5, 28)).loop();
        Program second = new Program().need(128).call(5, 0, 4096 + 192, 0, 0).li(5, 4096 + 64)
            .raw(Program.sw(5, 5, 0), Program.sw(5, 5, 60), Program.sw(5, 5, 124), 0);
        GrantKernel k = Program.booted(1, 16, first, second);
        k.run(2);
        int[] at = {4160, 4220, 4284};
        for (int a : at) {
            Check.due("before: word(" + a + ")", k.word(a), 4160);
        }
        k.run(2);
        Check.due("it STARTED again", k.look(1, 6), 2);
        for (int a : at) {
            Check.due("anew: word(" + a + ")", k.word(a), 0);
        }
        Check.due("the first's word(4096)", k.word(4096), 4096);
        Check.due("the first's word(4124)", k.word(4124), 4096);
    }

    private static void negativeOffset() {
        Program p = new Program().need(128).li(5, 4096 + 32).raw(Program.sw(5, 5, -32), Program.lw(6, 5, -32)).loop();
        GrantKernel k = Program.booted(0, 4, p);
        k.run(1);
        Check.due("lw with a negative offset", k.register(0, 6), 4096 + 32);
    }

    /** What was there is told by the first calls again, 0 and 0 as at first. */
    private static void nothingSubscribedOrAllowed() {
        Program p = new Program().need(256).call(1, 0, 1, 20, 9).call(3, 0, 1, 4096, 8).call(4, 0, 1, 4100, 7).raw(0);
        GrantKernel k = Program.booted(1, 34, p);
        k.run(1);
        Check.due("STARTED again", k.look(0, 6), 2);
        k.ways(1, 11);
        for (int i = 0; i < 3; i++) {
            k.run(1);
            Check.due("anew: x10", k.register(0, 10), 130);
            Check.due("anew: x11", k.register(0, 11), 0);
            Check.due("anew: x12", k.register(0, 12), 0);
        }
    }

    /** EXIT 1 is no FAULT: it does not use up the POLICY. What drivers hold goes, but for the STORE. */
    private static void whatGoes() {
        int[][] ways = {{6, 0}, {6, 1}, {7, 0}};
        for (int[] way : ways) {
            Program p = new Program().need(256).call(1, 0, 0, 20, 0).call(1, 2, 0, 20, 0).call(2, 0, 2, 1, 0)
                .call(2, 2, 1, 0, 0).call(2, 3, 2, 4, 5);
            if (way[0] == 6) {
                p.call(6, way[1], 0, 0, 0);
            }
            p.raw(0);
            GrantKernel k = Program.booted(0, 50, p);
            k.run(1);
            k.ways(0, way[0] == 6 ? 16 : 6);
            k.run(1);
            boolean again = way[1] == 1;
            int stands = again ? GrantKernel.READY : way[0] == 6 ? GrantKernel.STOPPED : GrantKernel.FAULTED;
            String name = "what goes " + way[0] + " " + way[1];
            Check.due(name, k.look(0, 0), stands);
            Check.due(name + ": STARTED", k.look(0, 6), again ? 2 : 1);
            k.tick(3);
            k.press(0, true);
            Check.due(name + ": queued", k.look(0, 5), 0);
            Check.due(name + ": DONE", k.look(0, 9), 0);
            Check.due(name + ": still", k.look(0, 0), stands);
            Check.due(name + ": keys", k.count(5), 1);
        }
        GrantKernel k = Program.booted(1, 11, new Program().need(64).call(6, 1, 0, 0, 0));
        k.run(5);
        Check.due("EXIT 1 five times", k.look(0, 6), 6);
        Check.due("no FAULTS", k.look(0, 7), 0);
    }

    private static void offset(boolean own, int f3, int base, int offset) {
        GrantKernel loads = among(base, Program.load(f3, 7, 5, offset));
        String name = f3 + " at " + base + " and " + offset;
        Check.due("load " + name, loads.look(1, 0), own ? GrantKernel.READY : GrantKernel.FAULTED);
        GrantKernel stores = among(base, Program.typeS(f3, 5, 7, offset));
        boolean inBlock = own && base + offset >= 4096;
        Check.due("store " + name, stores.look(1, 0), inBlock ? GrantKernel.READY : GrantKernel.FAULTED);
        if (inBlock) {
            Check.due("stored " + name, stores.word(base + offset & ~3), 77 << 8 * (base + offset & 3));
        }
    }

    /** OWN: it is the sum that counts, which may wrap round, and not the register before it. */
    private static void offsets() {
        for (int f3 = 0; f3 < 3; f3++) {
            int size = 1 << f3;
            offset(true, f3, BLOCK - 4, 4);
            offset(true, f3, BREAK, -size);
            offset(false, f3, BLOCK, -size);
            offset(false, f3, BREAK - size, size);
            offset(true, f3, BLOCK - 2047, 2047);
            offset(true, f3, BLOCK + 2048, -2048);
            offset(true, f3, -4, CODE + 4);
            offset(false, f3, -4, CODE + 4 - size);
            offset(true, f3, CODE + 2048, -2048);
            offset(false, f3, Integer.MAX_VALUE, 1);
            offset(false, f3, Integer.MIN_VALUE, -1);
            offset(false, f3, 0, -4);
            offset(false, f3, -4, 4);
            offset(size == 1, f3, BLOCK + 4, 1);
            offset(size == 1, f3, BLOCK + 4, -1);
            offset(size < 4, f3, BLOCK + 1, 1);
            offset(size < 4, f3, BLOCK + 3, -1);
            offset(true, f3, BLOCK + 1, 3);
        }
    }

    /** A PROCESS whose BREAK is moved there, after these calls; then one load or store. */
    private static GrantKernel withBreak(int breakAt, boolean granted, int instruction, int address) {
        Program p = new Program().need(64);
        int calls = granted ? 2 : 1;
        if (granted) {
            p.call(2, 3, 1, 0, 0);
        }
        p.call(5, 0, breakAt, 0, 0).li(5, address).li(7, 77).raw(instruction).loop();
        GrantKernel k = Program.booted(0, 11 * calls + 5, p, new Program().need(64).loop());
        k.run(1);
        Check.due("the BREAK", k.look(0, 3), breakAt);
        return k;
    }

    private static void withBreak(boolean own, int breakAt, boolean granted, int f3, int address) {
        String name = " " + f3 + " at " + address + " with the BREAK " + breakAt;
        int due = own ? GrantKernel.READY : GrantKernel.FAULTED;
        int[] instructions = {Program.load(f3, 7, 5, 0), Program.typeS(f3, 5, 7, 0)};
        for (int i = 0; i < 2; i++) {
            GrantKernel k = withBreak(breakAt, granted, instructions[i], address);
            Check.due((i == 0 ? "load" : "store") + name, k.look(0, 0), due);
        }
    }

    /** OWN: of the BLOCK up to the BREAK nothing is left. */
    private static void breakAtTheBeginning() {
        for (int f3 = 0; f3 < 3; f3++) {
            withBreak(false, 4096, false, f3, 4096);
            withBreak(false, 4096, false, f3, 4100);
            withBreak(true, 4096 + (1 << f3), false, f3, 4096);
            withBreak(false, 4096 + (1 << f3), false, f3, 4096 + (1 << f3));
        }
    }

    private static void breakAtTheEnd() {
        for (int f3 = 0; f3 < 3; f3++) {
            int size = 1 << f3;
            withBreak(true, 4160, false, f3, 4096);
            withBreak(true, 4160, false, f3, 4160 - size);
            withBreak(false, 4160, false, f3, 4160);
            withBreak(false, 4159, false, f3, 4160 - size);
        }
    }

    /** OWN: what is granted is not. */
    private static void breakAtLow() {
        for (int f3 = 0; f3 < 3; f3++) {
            int size = 1 << f3;
            withBreak(true, 4152, true, f3, 4152 - size);
            withBreak(false, 4152, true, f3, 4152);
            withBreak(false, 4152, true, f3, 4160 - size);
        }
    }

    /** FAULTS: one taken that is not at a multiple of its size, though an instruction could be read there. */
    private static void takenFromWithin() {
        int[] words = {0x13, 0x1313, 0x00130013, 0x13000013};
        for (int within = 0; within < 4; within++) {
            Program p = new Program().need(128).raw(words[within], Program.addi(0, 0, 0)).entryHere()
                .call(1, 2, 0, 20 + within, 0).call(2, 2, 1, 0, 0).call(0, 1, 0, 0, 0);
            GrantKernel k = Program.booted(0, 33, p);
            k.run(1);
            k.press(0, true);
            Check.due("PC " + within + " octets within", k.register(0, 32), 20 + within);
            k.ways(0, 1);
            k.run(1);
            Check.due("taken from " + within + " octets within", k.look(0, 0),
                within == 0 ? GrantKernel.READY : GrantKernel.FAULTED);
            Check.due("PC behind it", k.register(0, 32), within == 0 ? 24 : 20 + within);
        }
    }

    /** OWN: behind the last WORD of FLASH there is nothing to take. */
    private static void endOfFlash() {
        GrantKernel k = new GrantKernel();
        int[] header = {512, 1, 64, 2044, 512 ^ 1 ^ 64 ^ 2044};
        for (int i = 0; i < 5; i++) {
            k.flash(i, header[i]);
        }
        k.flash(511, Program.lw(7, 0, 2044));
        k.boot();
        Check.due("the last WORD, and one that FAULTS", k.run(1), 2);
        Check.due("it could load itself", k.register(0, 7), Program.lw(7, 0, 2044));
        Check.due("FAULTED", k.look(0, 0), GrantKernel.FAULTED);
        Check.due("PC behind FLASH", k.register(0, 32), 2048);
    }
}
