import java.math.BigInteger;
import java.util.function.IntBinaryOperator;

/** INSTRUCTIONS: what each gives, and which WORDS are none. */
public final class InstructionsTest {
    private static final int[] VALUES = {0, 1, 2, 3, 7, -1, -2, -7, 31, 32, 33, 0x7FF, 0x800, -2048, 0x7FFFFFFF,
        Integer.MIN_VALUE, Integer.MIN_VALUE + 1, 0x12345678, 0x87654321, 0xFFFF0000};
    private static final int[] IMMEDIATES = {0, 1, 5, -1, 2047, -2048, 31, 0x555};
    private static final BigInteger WRAP = BigInteger.ONE.shiftLeft(32);

    public static void main(String[] args) {
        operations();
        immediates();
        shiftsByImmediates();
        uppers();
        jumps();
        jumpFarAndWide();
        branches();
        loads();
        stores();
        otherWords();
        zeroRegister();
        nextToTheEncodings();
        divisionEdges();
        shiftEdges();
        nothingIsDone();
        Check.done();
    }

    private static BigInteger signed(int v) {
        return BigInteger.valueOf(v);
    }

    private static BigInteger unsigned(int v) {
        return BigInteger.valueOf(v).mod(WRAP);
    }

    private static int high(BigInteger a, BigInteger b) {
        return a.multiply(b).shiftRight(32).intValue();
    }

    private static void operation(String name, int f7, int f3, IntBinaryOperator want) {
        for (int a : VALUES) {
            Program p = new Program().li(5, a);
            for (int i = 0; i < VALUES.length; i++) {
                p.li(6, VALUES[i]).raw(Program.typeR(f7, f3, 7, 5, 6)).raw(Program.addi(0, 0, 0));
            }
            p.loop();
            GrantKernel k = Program.booted(0, 2, p);
            k.run(1);
            k.ways(0, 4);
            for (int b : VALUES) {
                k.run(1);
                Check.due(name + " " + a + ", " + b, k.register(0, 7), want.applyAsInt(a, b));
            }
        }
    }

    private static void operations() {
        operation("add", 0, 0, (a, b) -> signed(a).add(signed(b)).intValue());
        operation("sub", 32, 0, (a, b) -> signed(a).subtract(signed(b)).intValue());
        operation("sll", 0, 1, (a, b) -> signed(a).shiftLeft(b & 31).intValue());
        operation("slt", 0, 2, (a, b) -> signed(a).compareTo(signed(b)) < 0 ? 1 : 0);
        operation("sltu", 0, 3, (a, b) -> unsigned(a).compareTo(unsigned(b)) < 0 ? 1 : 0);
        operation("xor", 0, 4, (a, b) -> signed(a).xor(signed(b)).intValue());
        operation("srl", 0, 5, (a, b) -> unsigned(a).shiftRight(b & 31).intValue());
        operation("sra", 32, 5, (a, b) -> signed(a).shiftRight(b & 31).intValue());
        operation("or", 0, 6, (a, b) -> signed(a).or(signed(b)).intValue());
        operation("and", 0, 7, (a, b) -> signed(a).and(signed(b)).intValue());
        operation("mul", 1, 0, (a, b) -> signed(a).multiply(signed(b)).intValue());
        operation("mulh", 1, 1, (a, b) -> high(signed(a), signed(b)));
        operation("mulhsu", 1, 2, (a, b) -> high(signed(a), unsigned(b)));
        operation("mulhu", 1, 3, (a, b) -> high(unsigned(a), unsigned(b)));
        operation("div", 1, 4, (a, b) -> b == 0 ? -1 : signed(a).divide(signed(b)).intValue());
        operation("divu", 1, 5, (a, b) -> b == 0 ? -1 : unsigned(a).divide(unsigned(b)).intValue());
        operation("rem", 1, 6, (a, b) -> b == 0 ? a : signed(a).remainder(signed(b)).intValue());
        operation("remu", 1, 7, (a, b) -> b == 0 ? a : unsigned(a).remainder(unsigned(b)).intValue());
    }

    private static int after(int a, int instruction) {
        GrantKernel k = Program.booted(0, 3, new Program().li(5, a).raw(instruction));
        k.run(1);
        Check.due("PC behind it", k.register(0, 32), 32);
        return k.register(0, 7);
    }

    private static void immediate(String name, int f3, IntBinaryOperator want) {
        for (int a : VALUES) {
            for (int imm : IMMEDIATES) {
                Check.due(name + " " + a + ", " + imm, after(a, Program.typeI(0x13, f3, 7, 5, imm)),
                    want.applyAsInt(a, imm));
            }
        }
    }

    private static void immediates() {
        immediate("addi", 0, (a, b) -> signed(a).add(signed(b)).intValue());
        immediate("slti", 2, (a, b) -> signed(a).compareTo(signed(b)) < 0 ? 1 : 0);
        immediate("sltiu", 3, (a, b) -> unsigned(a).compareTo(unsigned(b)) < 0 ? 1 : 0);
        immediate("xori", 4, (a, b) -> signed(a).xor(signed(b)).intValue());
        immediate("ori", 6, (a, b) -> signed(a).or(signed(b)).intValue());
        immediate("andi", 7, (a, b) -> signed(a).and(signed(b)).intValue());
    }

    private static void shiftsByImmediates() {
        int[] shifts = {0, 1, 15, 31};
        for (int a : VALUES) {
            for (int s : shifts) {
                Check.due("slli " + a + ", " + s, after(a, Program.typeI(0x13, 1, 7, 5, s)),
                    signed(a).shiftLeft(s).intValue());
                Check.due("srli " + a + ", " + s, after(a, Program.typeI(0x13, 5, 7, 5, s)),
                    unsigned(a).shiftRight(s).intValue());
                Check.due("srai " + a + ", " + s, after(a, Program.typeI(0x13, 5, 7, 5, s | 1024)),
                    signed(a).shiftRight(s).intValue());
            }
        }
    }

    private static void uppers() {
        int[] uppers = {0, 1, 0x7FFFF, 0x80000, 0xFFFFF};
        for (int u : uppers) {
            Check.due("lui " + u, after(3, Program.lui(7, u)), u << 12);
            Check.due("auipc " + u, after(3, Program.auipc(7, u)), (u << 12) + 28);
        }
    }

    private static void jump(String name, int instruction, int goal, boolean links) {
        GrantKernel k = Program.booted(0, 3, new Program().li(5, 104).raw(instruction).raw(new int[40]));
        Check.due(name + ": instructions", k.run(1), 3);
        Check.due(name + ": PC", k.register(0, 32), goal);
        Check.due(name + ": x7", k.register(0, 7), links ? 32 : 0);
        Check.due(name + ": how it stands", k.look(0, 0), GrantKernel.READY);
    }

    private static void jumps() {
        jump("jal forward", Program.jal(7, 40), 68, true);
        jump("jal back", Program.jal(7, -8), 20, true);
        jump("jal x0", Program.jal(0, 8), 36, false);
        jump("jal to what is no multiple of 4", Program.jal(7, 6), 34, true);
        jump("jal to what is not OWN", Program.jal(7, -28), 0, true);
        jump("jalr", Program.jalr(7, 5, 0), 104, true);
        jump("jalr back", Program.jalr(7, 5, -4), 100, true);
        jump("jalr odd", Program.jalr(7, 5, 1), 104, true);
        jump("jalr odd back", Program.jalr(7, 5, -1), 102, true);
        jump("jalr to what is no multiple of 4", Program.jalr(7, 5, 2), 106, true);
        jump("jalr x0", Program.jalr(0, 5, 4), 108, false);
        jump("jalr below 0", Program.jalr(7, 0, -1), -2, true);
        GrantKernel k = Program.booted(0, 3, new Program().li(7, 104).raw(Program.jalr(7, 7, 4)));
        k.run(1);
        Check.due("jalr x7, x7: PC", k.register(0, 32), 108);
        Check.due("jalr x7, x7: x7", k.register(0, 7), 32);
    }

    /** Every bit of the offsets once; the goal need not be OWN until something is taken from it. */
    private static void jumpFarAndWide() {
        for (int bit = 1; bit <= 20; bit++) {
            int offset = bit == 20 ? -(1 << 20) : 1 << bit;
            jump("jal " + offset, Program.jal(7, offset), 28 + offset, true);
        }
        for (int bit = 1; bit <= 12; bit++) {
            int offset = bit == 12 ? -4096 : 1 << bit;
            jump("beq " + offset, Program.typeB(0, 0, 0, offset), 28 + offset, false);
        }
        for (int bit = 1; bit <= 11; bit++) {
            int offset = bit == 11 ? -2048 : 1 << bit;
            jump("jalr " + offset, Program.jalr(7, 0, offset), offset, true);
        }
    }

    private static void branch(String name, int f3, IntBinaryOperator taken) {
        for (int a : VALUES) {
            for (int b : VALUES) {
                Program p = new Program().li(5, a).li(7, b).raw(Program.typeB(f3, 5, 7, -16));
                GrantKernel k = Program.booted(0, 5, p);
                k.run(1);
                Check.due(name + " " + a + ", " + b, k.register(0, 32), taken.applyAsInt(a, b) != 0 ? 20 : 40);
            }
        }
    }

    private static void branches() {
        branch("beq", 0, (a, b) -> a == b ? 1 : 0);
        branch("bne", 1, (a, b) -> a != b ? 1 : 0);
        branch("blt", 4, (a, b) -> signed(a).compareTo(signed(b)) < 0 ? 1 : 0);
        branch("bge", 5, (a, b) -> signed(a).compareTo(signed(b)) >= 0 ? 1 : 0);
        branch("bltu", 6, (a, b) -> unsigned(a).compareTo(unsigned(b)) < 0 ? 1 : 0);
        branch("bgeu", 7, (a, b) -> unsigned(a).compareTo(unsigned(b)) >= 0 ? 1 : 0);
    }

    private static void loads() {
        int w = 0x83F20481;
        int[] octets = {0x81, 0x04, 0xF2, 0x83};
        int nothing = Program.addi(0, 0, 0);
        Program inFlash = new Program().li(5, 32).raw(Program.jal(0, 8), w);
        Program inRam = new Program().li(5, 4096).li(6, w).raw(Program.sw(5, 6, 0), nothing);
        for (Program p : new Program[] {inFlash, inRam}) {
            for (int i = 0; i < 4; i++) {
                p.raw(Program.load(0, 10 + i, 5, i), Program.load(4, 14 + i, 5, i));
            }
            p.raw(Program.load(1, 18, 5, 0), Program.load(1, 19, 5, 2));
            p.raw(Program.load(5, 20, 5, 0), Program.load(5, 21, 5, 2), Program.load(2, 22, 5, 0)).loop();
            GrantKernel k = Program.booted(0, 50, p);
            k.run(1);
            Check.due("READY behind loads", k.look(0, 0), GrantKernel.READY);
            for (int i = 0; i < 4; i++) {
                Check.due("lb " + i, k.register(0, 10 + i), (byte) octets[i]);
                Check.due("lbu " + i, k.register(0, 14 + i), octets[i]);
            }
            Check.due("lh 0", k.register(0, 18), 0x0481);
            Check.due("lh 2", k.register(0, 19), (short) 0x83F2);
            Check.due("lhu 0", k.register(0, 20), 0x0481);
            Check.due("lhu 2", k.register(0, 21), 0x83F2);
            Check.due("lw", k.register(0, 22), w);
        }
    }

    private static void stores() {
        Program p = new Program().need(2048).li(5, 4096 + 512).li(6, 0xAABBCCDD).li(7, -1);
        for (int i = 0; i < 4; i++) {
            p.raw(Program.sw(5, 7, 4 * i - 512), Program.sb(5, 6, 5 * i - 512));
        }
        p.raw(Program.typeS(1, 5, 6, 500), Program.typeS(1, 5, 6, 506), Program.sw(5, 6, 508)).loop();
        GrantKernel k = Program.booted(0, 50, p);
        k.run(1);
        Check.due("sb 0", k.word(4096), 0xFFFFFFDD);
        Check.due("sb 1", k.word(4100), 0xFFFFDDFF);
        Check.due("sb 2", k.word(4104), 0xFFDDFFFF);
        Check.due("sb 3", k.word(4108), 0xDDFFFFFF);
        Check.due("sh 0", k.word(5108), 0xCCDD);
        Check.due("sh 2", k.word(5112), 0xCCDD0000);
        Check.due("sw", k.word(5116), 0xAABBCCDD);
    }

    private static void noInstruction(String name, int w) {
        GrantKernel k = Program.booted(0, 8, new Program().li(5, 4096).raw(w).loop());
        Check.due(name + " run", k.run(1), 3);
        Check.due(name + " stands", k.look(0, 0), GrantKernel.FAULTED);
        Check.due(name + " PC", k.register(0, 32), 28);
        Check.due(name + " system calls", k.look(0, 10), 0);
    }

    private static void otherWords() {
        noInstruction("0", 0);
        noInstruction("all 1s", -1);
        noInstruction("ebreak", 0x00100073);
        noInstruction("mret", 0x30200073);
        noInstruction("ecall with rd", 0x73 | 1 << 7);
        noInstruction("ecall with rs1", 0x73 | 1 << 15);
        noInstruction("csrrw", 0x30001073);
        noInstruction("fence", 0x0FF0000F);
        noInstruction("fence.i", 0x0000100F);
        for (int f3 = 1; f3 < 8; f3++) {
            noInstruction("jalr with " + f3, Program.typeI(0x67, f3, 0, 5, 0));
        }
        noInstruction("branch 2", Program.typeB(2, 0, 0, 8));
        noInstruction("branch 3", Program.typeB(3, 0, 0, 8));
        noInstruction("load 3", Program.load(3, 7, 5, 0));
        noInstruction("load 6", Program.load(6, 7, 5, 0));
        noInstruction("load 7", Program.load(7, 7, 5, 0));
        for (int f3 = 3; f3 < 8; f3++) {
            noInstruction("store " + f3, Program.typeS(f3, 5, 7, 0));
        }
        for (int f7 = 0; f7 < 128; f7++) {
            for (int f3 = 0; f3 < 8; f3++) {
                boolean isOne = f7 == 0 || f7 == 1 || f7 == 32 && (f3 == 0 || f3 == 5);
                if (!isOne) {
                    noInstruction("operation " + f7 + " " + f3, Program.typeR(f7, f3, 7, 5, 5));
                }
            }
            if (f7 != 0) {
                noInstruction("slli " + f7, Program.typeI(0x13, 1, 7, 5, f7 << 5 | 3));
            }
            if (f7 != 0 && f7 != 32) {
                noInstruction("srli " + f7, Program.typeI(0x13, 5, 7, 5, f7 << 5 | 3));
            }
        }
        int[] opcodes = {0x03, 0x13, 0x17, 0x23, 0x33, 0x37, 0x63, 0x67, 0x6F};
        for (int op = 0; op < 128; op++) {
            boolean known = false;
            for (int o : opcodes) {
                known |= o == op;
            }
            if (!known) {
                noInstruction("opcode " + op, 0x00028380 | op);
            }
        }
    }

    private static void zeroRegister() {
        Program p = new Program().raw(Program.addi(0, 0, 5), Program.lui(0, 5), Program.auipc(0, 5))
            .li(5, 4096).raw(Program.lw(0, 10, 20), Program.typeR(0, 0, 0, 5, 5), Program.jal(0, 4)).loop();
        GrantKernel k = Program.booted(0, 9, p);
        Check.due("run(1)", k.run(1), 9);
        Check.due("x0", k.register(0, 0), 0);
        Check.due("READY", k.look(0, 0), GrantKernel.READY);
    }

    private static final int OPCODE = 0x7F, KIND = 0x707F, WHOLE = 0xFE00707F;

    /** The encodings as the manual of RV32IM tells them: which bits are fixed, and what they are. */
    private static final int[][] ENCODINGS = {
        {OPCODE, 0x37}, {OPCODE, 0x17}, {OPCODE, 0x6F}, {KIND, 0x67},
        {KIND, 0x0063}, {KIND, 0x1063}, {KIND, 0x4063}, {KIND, 0x5063}, {KIND, 0x6063}, {KIND, 0x7063},
        {KIND, 0x0003}, {KIND, 0x1003}, {KIND, 0x2003}, {KIND, 0x4003}, {KIND, 0x5003},
        {KIND, 0x0023}, {KIND, 0x1023}, {KIND, 0x2023},
        {KIND, 0x0013}, {KIND, 0x2013}, {KIND, 0x3013}, {KIND, 0x4013}, {KIND, 0x6013}, {KIND, 0x7013},
        {WHOLE, 0x1013}, {WHOLE, 0x5013}, {WHOLE, 0x40005013},
        {WHOLE, 0x0033}, {WHOLE, 0x40000033}, {WHOLE, 0x1033}, {WHOLE, 0x2033}, {WHOLE, 0x3033}, {WHOLE, 0x4033},
        {WHOLE, 0x5033}, {WHOLE, 0x40005033}, {WHOLE, 0x6033}, {WHOLE, 0x7033},
        {WHOLE, 0x02000033}, {WHOLE, 0x02001033}, {WHOLE, 0x02002033}, {WHOLE, 0x02003033}, {WHOLE, 0x02004033},
        {WHOLE, 0x02005033}, {WHOLE, 0x02006033}, {WHOLE, 0x02007033},
        {-1, 0x73},
    };

    private static boolean isInstruction(int w) {
        for (int[] e : ENCODINGS) {
            if ((w & e[0]) == e[1]) {
                return true;
            }
        }
        return false;
    }

    /** Loads and stores may FAULT for other reasons; jumps are done, wherever they go. */
    private static void judged(int w) {
        boolean toMemory = (w & OPCODE) == 0x03 || (w & OPCODE) == 0x23;
        if (isInstruction(w) && toMemory) {
            return;
        }
        GrantKernel k = Program.booted(0, 1, new Program().raw(w));
        k.run(1);
        Check.due("the WORD " + Integer.toHexString(w), k.look(0, 7), isInstruction(w) ? 0 : 1);
    }

    /** FAULTS: another WORD; those that differ by one bit from an instruction, and those that differ by two. */
    private static void nextToTheEncodings() {
        int[] fields = {0, 0x00A50513, 0x01FF8F80, 0xFFFFFFFF};
        for (int[] e : ENCODINGS) {
            for (int f : fields) {
                int w = e[1] | f & ~e[0];
                judged(w);
                for (int bit = 0; bit < 32; bit++) {
                    judged(w ^ 1 << bit);
                    judged(w ^ 1 << bit ^ 1 << (bit + 13) % 32);
                }
            }
        }
    }

    private static int of(int f7, int f3, int a, int b) {
        GrantKernel k = Program.booted(0, 5, new Program().li(5, a).li(6, b).raw(Program.typeR(f7, f3, 7, 5, 6)));
        k.run(1);
        Check.due("no FAULT", k.look(0, 7), 0);
        return k.register(0, 7);
    }

    /** 'a division by 0 gives all 1s (the remainder: the first one), the least int by -1 itself (0)'. */
    private static void divisionEdges() {
        int least = Integer.MIN_VALUE;
        int[] firsts = {0, 1, -1, least, Integer.MAX_VALUE};
        for (int a : firsts) {
            Check.due("div " + a + ", 0", of(1, 4, a, 0), -1);
            Check.due("divu " + a + ", 0", of(1, 5, a, 0), -1);
            Check.due("rem " + a + ", 0", of(1, 6, a, 0), a);
            Check.due("remu " + a + ", 0", of(1, 7, a, 0), a);
        }
        Check.due("div least, -1", of(1, 4, least, -1), least);
        Check.due("rem least, -1", of(1, 6, least, -1), 0);
        Check.due("divu least, -1", of(1, 5, least, -1), 0);
        Check.due("remu least, -1", of(1, 7, least, -1), least);
        Check.due("div -7, 2", of(1, 4, -7, 2), -3);
        Check.due("rem -7, 2", of(1, 6, -7, 2), -1);
        Check.due("div 7, -2", of(1, 4, 7, -2), -3);
        Check.due("rem 7, -2", of(1, 6, 7, -2), 1);
        Check.due("mulh least, least", of(1, 1, least, least), 0x40000000);
        Check.due("mulhsu least, -1", of(1, 2, least, -1), least);
        Check.due("mulhsu -1, least", of(1, 2, -1, least), -1);
        Check.due("mulhu -1, -1", of(1, 3, -1, -1), -2);
    }

    /** By more than 31 in a register: its lowest five bits count. */
    private static void shiftEdges() {
        int[] by = {0, 31, 32, 63, 64, -1, -32, Integer.MIN_VALUE, Integer.MAX_VALUE};
        int[] low = {0, 31, 0, 31, 0, 31, 0, 0, 31};
        int[] values = {1, -1, Integer.MIN_VALUE, 0x40000001};
        for (int a : values) {
            for (int i = 0; i < by.length; i++) {
                boolean far = low[i] == 31;
                int shiftedLeft = a % 2 != 0 ? Integer.MIN_VALUE : 0;
                Check.due("sll " + a + ", " + by[i], of(0, 1, a, by[i]), far ? shiftedLeft : a);
                Check.due("srl " + a + ", " + by[i], of(0, 5, a, by[i]), far ? (a < 0 ? 1 : 0) : a);
                Check.due("sra " + a + ", " + by[i], of(32, 5, a, by[i]), far ? (a < 0 ? -1 : 0) : a);
            }
        }
    }

    /** 'nothing of it is done then': no register, no memory, not PC. */
    private static void nothingIsDone() {
        int[] faults = {0, -1, 0x00100073, 0x0000000F, Program.typeI(0x67, 1, 5, 5, 0), Program.typeB(2, 0, 0, -8),
            Program.load(3, 5, 11, 0), Program.lw(5, 11, 1), Program.lw(5, 11, -4), Program.load(0, 5, 0, 19),
            Program.load(5, 5, 11, 3), Program.lw(5, 13, 0), Program.sw(13, 11, 0), Program.sw(11, 11, 2),
            Program.typeS(1, 11, 11, 1), Program.typeS(3, 11, 11, 0), Program.sb(11, 11, -1),
            Program.typeR(64, 0, 5, 11, 11), Program.typeI(0x13, 1, 5, 11, 32), 0x73 | 5 << 7};
        for (int w : faults) {
            GrantKernel k = Program.booted(0, 1, new Program().need(64).raw(w, Program.addi(0, 0, 0)));
            int[] before = new int[33];
            for (int r = 0; r <= 32; r++) {
                before[r] = k.register(0, r);
            }
            k.run(1);
            String name = "the WORD " + Integer.toHexString(w);
            Check.due(name + ": FAULTED", k.look(0, 0), GrantKernel.FAULTED);
            for (int r = 0; r <= 32; r++) {
                Check.due(name + ": register " + r, k.register(0, r), before[r]);
            }
            for (int at = 4096; at < 4096 + 80; at += 4) {
                Check.due(name + ": word(" + at + ")", k.word(at), 0);
            }
            Check.due(name + ": BREAK", k.look(0, 3), 4128);
            Check.due(name + ": LOW", k.look(0, 4), 4160);
        }
    }
}
