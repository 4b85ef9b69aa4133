import java.util.ArrayList;
import java.util.Arrays;
import java.util.List;

/** Assembles a program for the machine, HEADER and all. */
final class Program {
    static final int HEADER_OCTETS = 20;
    private final List<Integer> words = new ArrayList<>();
    private int flags = 1;
    private int need = 256;
    private int entry = HEADER_OCTETS;

    Program flags(int f) {
        flags = f;
        return this;
    }

    Program need(int octets) {
        need = octets;
        return this;
    }

    Program entry(int octets) {
        entry = octets;
        return this;
    }

    /** ENTRY is where the next instruction goes. */
    Program entryHere() {
        return entry(here());
    }

    /** Octets from the HEADER's beginning to the next instruction. */
    int here() {
        return HEADER_OCTETS + 4 * words.size();
    }

    int size() {
        return 5 + words.size();
    }

    Program raw(int... more) {
        for (int w : more) {
            words.add(w);
        }
        return this;
    }

    static int typeR(int f7, int f3, int rd, int rs1, int rs2) {
        return f7 << 25 | rs2 << 20 | rs1 << 15 | f3 << 12 | rd << 7 | 0x33;
    }

    static int typeI(int opcode, int f3, int rd, int rs1, int imm) {
        return imm << 20 | rs1 << 15 | f3 << 12 | rd << 7 | opcode;
    }

    static int typeS(int f3, int rs1, int rs2, int imm) {
        return (imm >> 5 & 127) << 25 | rs2 << 20 | rs1 << 15 | f3 << 12 | (imm & 31) << 7 | 0x23;
    }

    static int typeB(int f3, int rs1, int rs2, int offset) {
        return (offset >> 12 & 1) << 31 | (offset >> 5 & 63) << 25 | rs2 << 20 | rs1 << 15 | f3 << 12
            | (offset >> 1 & 15) << 8 | (offset >> 11 & 1) << 7 | 0x63;
    }

    static int lui(int rd, int upper20) {
        return upper20 << 12 | rd << 7 | 0x37;
    }

    static int auipc(int rd, int upper20) {
        return upper20 << 12 | rd << 7 | 0x17;
    }

    static int jal(int rd, int offset) {
        return (offset >> 20 & 1) << 31 | (offset >> 1 & 1023) << 21 | (offset >> 11 & 1) << 20
            | (offset >> 12 & 255) << 12 | rd << 7 | 0x6F;
    }

    static int jalr(int rd, int rs1, int imm) {
        return typeI(0x67, 0, rd, rs1, imm);
    }

    static int addi(int rd, int rs1, int imm) {
        return typeI(0x13, 0, rd, rs1, imm);
    }

    static int load(int f3, int rd, int rs1, int imm) {
        return typeI(0x03, f3, rd, rs1, imm);
    }

    static int lw(int rd, int rs1, int imm) {
        return load(2, rd, rs1, imm);
    }

    static int sb(int rs1, int rs2, int imm) {
        return typeS(0, rs1, rs2, imm);
    }

    static int sw(int rs1, int rs2, int imm) {
        return typeS(2, rs1, rs2, imm);
    }

    /** Always two instructions, so that offsets do not hang on the value. */
    Program li(int rd, int value) {
        return raw(lui(rd, value + 0x800 >>> 12), addi(rd, rd, value << 20 >> 20));
    }

    static final int ECALL = 0x73;
    /** Instructions of one call(..): five li and the ecall. */
    static final int CALL_WORDS = 11;

    Program call(int callClass, int a, int b, int c, int d) {
        return li(10, a).li(11, b).li(12, c).li(13, d).li(14, callClass).raw(ECALL);
    }

    /** The same call in as few instructions as can be: each of them costs one of an object's 512 calls. */
    Program ask(int callClass, int a, int b, int c, int d) {
        int[] values = {a, b, c, d, callClass};
        for (int i = 0; i < values.length; i++) {
            if (values[i] >= -2048 && values[i] < 2048) {
                raw(addi(10 + i, 0, values[i]));
            } else {
                li(10 + i, values[i]);
            }
        }
        return raw(ECALL);
    }

    Program loop() {
        return raw(jal(0, 0));
    }

    int[] header() {
        int size = size();
        return new int[] {size, flags, need, entry, size ^ flags ^ need ^ entry};
    }

    /** All of it, HEADER first. */
    int[] words() {
        int[] all = Arrays.copyOf(header(), size());
        for (int i = 0; i < words.size(); i++) {
            all[5 + i] = words.get(i);
        }
        return all;
    }

    /** Writes it from WORD k on and answers the WORD behind it. */
    int into(GrantKernel kernel, int k) {
        int at = k;
        for (int w : words()) {
            kernel.flash(at++, w);
        }
        return at;
    }

    /** A kernel with these programs one behind another, booted. */
    static GrantKernel booted(int policy, int slice, Program... programs) {
        GrantKernel kernel = new GrantKernel();
        int at = 0;
        for (Program p : programs) {
            at = p.into(kernel, at);
        }
        kernel.ways(policy, slice);
        kernel.boot();
        return kernel;
    }
}
