import java.util.Arrays;
import java.util.NoSuchElementException;

/** A small kernel for untrusted programs; ../shared/DOC.md numbers its promises. */
public final class GrantKernel {
    public static final int READY = 0, YIELDED = 1, STOPPED = 2, FAULTED = 3;

    private static final int MOST_PROCESSES = 4;
    private static final int MOST_AT_ONCE = 60;
    private static final int MOST_POLICY = 9;
    private static final int MOST_SLICE = 50;
    private static final int FIRST_SLICE = 8;
    private static final int HEADER_WORDS = 5;
    private static final int LEAST_NEED = 64;
    private static final int MOST_NEED = 2048;
    private static final long UNSIGNED = 0xFFFFFFFFL;

    private final Memory memory;
    private final UserProcess[] processes;
    private final Drivers drivers;
    private final Processor processor;
    private final SystemCalls systemCalls;
    private int found;
    private boolean booted;
    private int policy;
    private int slice;
    private int lastTurn;
    private int instructions;

    public GrantKernel() {
        memory = new Memory();
        processes = new UserProcess[MOST_PROCESSES];
        for (int number = 0; number < MOST_PROCESSES; number++) {
            processes[number] = new UserProcess(number);
        }
        drivers = new Drivers(memory);
        processor = new Processor(memory);
        systemCalls = new SystemCalls(memory, drivers);
        slice = FIRST_SLICE;
        lastTurn = -1;
    }

    public int flash(int k, int w) throws IllegalArgumentException, IllegalStateException {
        if (k < 0 || k >= Memory.FLASH_WORDS) {
            throw new IllegalArgumentException();
        }
        if (booted) {
            throw new IllegalStateException();
        }
        int before = memory.flash[k];
        memory.flash[k] = w;
        return before;
    }

    public int boot() {
        memory.clearRam();
        drivers.forgetAll();
        found = 0;
        lastTurn = -1;
        instructions = 0;
        findProcesses();
        booted = true;
        return found;
    }

    public int halt() throws IllegalStateException {
        if (!booted) {
            throw new IllegalStateException();
        }
        booted = false;
        return found;
    }

    public boolean ways(int policy, int slice) {
        if (policy < 0 || policy > MOST_POLICY || slice < 1 || slice > MOST_SLICE) {
            return false;
        }
        this.policy = policy;
        this.slice = slice;
        return true;
    }

    public int run(int n) throws IllegalArgumentException, IllegalStateException {
        if (n < 1 || n > MOST_AT_ONCE) {
            throw new IllegalArgumentException();
        }
        if (!booted) {
            throw new IllegalStateException();
        }
        int before = instructions;
        for (int turn = 0; turn < n; turn++) {
            UserProcess next = nextReady();
            if (next == null) {
                break;
            }
            takeTurn(next);
        }
        return instructions - before;
    }

    public int tick(int n) throws IllegalArgumentException, IllegalStateException {
        if (n < 1 || n > MOST_AT_ONCE) {
            throw new IllegalArgumentException();
        }
        if (!booted) {
            throw new IllegalStateException();
        }
        for (int passed = 0; passed < n; passed++) {
            drivers.alarm.ticks++;
            for (int number = 0; number < found; number++) {
                drivers.alarm.ring(processes[number]);
            }
            drivers.console.writeNext();
        }
        return drivers.alarm.ticks;
    }

    public boolean press(int b, boolean on) throws IllegalArgumentException, IllegalStateException {
        if (!Buttons.exists(b)) {
            throw new IllegalArgumentException();
        }
        if (!booted) {
            throw new IllegalStateException();
        }
        if (drivers.buttons.isPressed(b) == on) {
            return false;
        }
        drivers.buttons.change(b);
        for (int number = 0; number < found; number++) {
            drivers.buttons.tell(processes[number], b);
        }
        return true;
    }

    public int register(int p, int r) throws NoSuchElementException, IllegalArgumentException {
        if (p < 0 || p >= found) {
            throw new NoSuchElementException();
        }
        if (r < 0 || r > UserProcess.REGISTERS) {
            throw new IllegalArgumentException();
        }
        return r == UserProcess.REGISTERS ? processes[p].pc : processes[p].x[r];
    }

    public int word(int address) throws IllegalArgumentException {
        boolean isThere = Memory.inFlash(address) || Memory.inRam(address);
        if ((address & 3) != 0 || !isThere) {
            throw new IllegalArgumentException();
        }
        return memory.load(address, 4);
    }

    public int look(int p, int what) throws NoSuchElementException, IllegalArgumentException {
        if (p < 0 || p >= found) {
            throw new NoSuchElementException();
        }
        UserProcess process = processes[p];
        switch (what) {
            case 0: return process.stand;
            case 1: return process.header;
            case 2: return process.block;
            case 3: return process.breakAt;
            case 4: return process.low;
            case 5: return process.upcalls.queued;
            case 6: return process.starts;
            case 7: return process.faults;
            case 8: return process.upcalls.lost;
            case 9: return process.upcalls.done;
            case 10: return process.calls;
            case 11: return process.granted;
            default: throw new IllegalArgumentException();
        }
    }

    public int console(int k) throws IndexOutOfBoundsException {
        if (k < 0 || k >= drivers.console.kept()) {
            throw new IndexOutOfBoundsException();
        }
        return drivers.console.octetBefore(k);
    }

    public int count(int what) throws IllegalArgumentException {
        switch (what) {
            case 0: return found;
            case 1: return instructions;
            case 2: return drivers.alarm.ticks;
            case 3: return drivers.console.octets;
            case 4: return drivers.console.writers;
            case 5: return drivers.store.keys;
            case 6: return lastTurn;
            default: throw new IllegalArgumentException();
        }
    }

    private void findProcesses() {
        int nextBlock = Memory.RAM_START;
        for (int k = 0; k < Memory.FLASH_WORDS && isHeader(k); k += Math.max(HEADER_WORDS, memory.flash[k])) {
            boolean wanted = (memory.flash[k + 1] & 1) != 0;
            int need = memory.flash[k + 2];
            if (wanted && found < MOST_PROCESSES && need <= Memory.RAM_END - nextBlock) {
                UserProcess process = processes[found];
                process.place(4 * k, memory.flash[k], need, memory.flash[k + 3], nextBlock);
                process.start(memory);
                nextBlock += need;
                found++;
            }
        }
    }

    private boolean isHeader(int k) {
        int left = Memory.FLASH_WORDS - k;
        if (k < 0 || left < HEADER_WORDS) {
            return false;
        }
        int[] flash = memory.flash;
        int size = flash[k];
        int need = flash[k + 2];
        int entry = flash[k + 3];
        boolean sizeFits = size >= HEADER_WORDS && size <= left;
        boolean needFits = need >= LEAST_NEED && need <= MOST_NEED && need % 16 == 0;
        boolean entryFits = entry >= 4 * HEADER_WORDS && entry % 4 == 0 && entry / 4 < size;
        return sizeFits && needFits && entryFits
            && (size ^ flash[k + 1] ^ need ^ entry ^ flash[k + 4]) == 0;
    }

    private UserProcess nextReady() {
        for (int further = 1; further <= found; further++) {
            UserProcess process = processes[(lastTurn + further) % found];
            if (process.stand == READY) {
                return process;
            }
        }
        return null;
    }

    private void takeTurn(UserProcess process) {
        lastTurn = process.number;
        int startsBefore = process.starts;
        for (int done = 0; done < slice; done++) {
            // a PROCESS that STARTS again is READY too, but its turn is over
            if (process.stand != READY || process.starts != startsBefore) {
                break;
            }
            instructions++;
            switch (processor.step(process)) {
                case Processor.CALLS:
                    systemCalls.serve(process);
                    break;
                case Processor.FAULTS:
                    fault(process);
                    break;
                default:
                    break;
            }
        }
    }

    private void fault(UserProcess process) {
        process.stand = FAULTED;
        process.faults++;
        drivers.release(process);
        if (policy > process.renewals) {
            process.renewals++;
            process.start(memory);
        }
    }

    private static final class Memory {
        static final int FLASH_WORDS = 512;
        static final int FLASH_END = 4 * FLASH_WORDS;
        static final int RAM_START = 4096;
        static final int RAM_END = 8192;

        final int[] flash = new int[FLASH_WORDS];
        // words, not octets: a quarter of the elements, and most loads are of words
        private final int[] ram = new int[(RAM_END - RAM_START) / 4];

        static boolean inFlash(int address) {
            return address >= 0 && address < FLASH_END;
        }

        static boolean inRam(int address) {
            return address >= RAM_START && address < RAM_END;
        }

        /** The octets without sign; they never go over the end of their WORD. */
        int load(int address, int octets) {
            int whole = 0;
            if (inFlash(address)) {
                whole = flash[address / 4];
            } else if (inRam(address)) {
                whole = ram[(address - RAM_START) / 4];
            }
            return (whole >>> (8 * (address & 3))) & mask(octets);
        }

        void store(int address, int octets, int value) {
            if (!inRam(address)) {
                return;
            }
            int at = (address - RAM_START) / 4;
            int shift = 8 * (address & 3);
            int mask = mask(octets) << shift;
            ram[at] = (ram[at] & ~mask) | ((value << shift) & mask);
        }

        private static int mask(int octets) {
            return octets >= 4 ? -1 : (1 << (8 * octets)) - 1;
        }

        void clearRam() {
            Arrays.fill(ram, 0);
        }

        void clear(int from, int octets) {
            int first = (from - RAM_START) / 4;
            Arrays.fill(ram, first, first + octets / 4, 0);
        }
    }

    private static final class UserProcess {
        static final int REGISTERS = 32;
        private static final int RETURN = 1, STACK = 2;
        static final int A = 10, B = 11, C = 12, D = 13, CALL_CLASS = 14;

        final int number;
        final int[] x = new int[REGISTERS];
        final Upcalls upcalls = new Upcalls();
        // slots as of Upcalls: those to be written first, then those to be read
        final int[] allowedFrom = new int[2 * Upcalls.SLOTS];
        final int[] allowedOctets = new int[2 * Upcalls.SLOTS];
        int pc;
        int header;
        int wordsEnd;
        int entry;
        int block;
        int need;
        int breakAt;
        int low;
        int stand;
        int granted;
        int starts;
        int renewals;
        int faults;
        int calls;

        UserProcess(int number) {
            this.number = number;
        }

        void place(int header, int size, int need, int entry, int block) {
            this.header = header;
            this.wordsEnd = header + 4 * size;
            this.need = need;
            this.entry = header + entry;
            this.block = block;
            starts = 0;
            renewals = 0;
            faults = 0;
            calls = 0;
            upcalls.lost = 0;
            upcalls.done = 0;
        }

        void start(Memory memory) {
            memory.clear(block, need);
            breakAt = block + need / 2;
            low = blockEnd();
            granted = 0;
            upcalls.clear();
            Arrays.fill(allowedFrom, 0);
            Arrays.fill(allowedOctets, 0);
            Arrays.fill(x, 0);
            x[STACK] = breakAt;
            x[A] = header;
            x[B] = block;
            x[C] = need;
            x[D] = breakAt;
            pc = entry;
            stand = READY;
            starts++;
        }

        int blockEnd() {
            return block + need;
        }

        void put(int r, int value) {
            if (r != 0) {
                x[r] = value;
            }
        }

        boolean ownsInWords(int from, long octets) {
            long first = from & UNSIGNED;
            return first >= header + 4 * HEADER_WORDS && first + octets <= wordsEnd;
        }

        boolean ownsInBlock(int from, long octets) {
            long first = from & UNSIGNED;
            return first >= block && first + octets <= breakAt;
        }

        boolean owns(int from, long octets) {
            return ownsInWords(from, octets) || ownsInBlock(from, octets);
        }

        boolean grant(int driver, int octets) {
            if ((granted & (1 << driver)) != 0) {
                return true;
            }
            if (low - octets < breakAt) {
                return false;
            }
            low -= octets;
            granted |= 1 << driver;
            return true;
        }

        boolean moveBreak(int goal) {
            if (goal < block || goal > low) {
                return false;
            }
            breakAt = goal;
            return true;
        }

        void upcall(int slot, int first, int second, int third) {
            if (upcalls.functions[slot] == 0) {
                return;
            }
            upcalls.add(slot, first, second, third);
            if (stand == YIELDED) {
                stand = READY;
                doFirstUpcall();
            }
        }

        void doFirstUpcall() {
            int[] queue = upcalls.queue;
            x[RETURN] = pc;
            pc = queue[0];
            x[A] = queue[1];
            x[B] = queue[2];
            x[C] = queue[3];
            x[D] = queue[4];
            System.arraycopy(queue, Upcalls.ROW, queue, 0, (Upcalls.MOST - 1) * Upcalls.ROW);
            upcalls.queued--;
            upcalls.done++;
        }

        void ok() {
            x[A] = 128;
        }

        void ok1(int v) {
            x[A] = 129;
            x[B] = v;
        }

        void ok2(int v, int w) {
            x[A] = 130;
            x[B] = v;
            x[C] = w;
        }

        void no(int error) {
            x[A] = 0;
            x[B] = error;
        }

        void no2(int error, int v, int w) {
            x[A] = 2;
            x[B] = error;
            x[C] = v;
            x[D] = w;
        }
    }

    /** What a PROCESS has subscribed, and what is queued for it; slot 2d + n is number n of DRIVER d. */
    private static final class Upcalls {
        static final int SLOTS = 8;
        static final int MOST = 4;
        static final int ROW = 5;

        final int[] functions = new int[SLOTS];
        final int[] data = new int[SLOTS];
        // function, three numbers and data of each as they were when it was queued
        final int[] queue = new int[MOST * ROW];
        int queued;
        int lost;
        int done;

        void clear() {
            Arrays.fill(functions, 0);
            Arrays.fill(data, 0);
            queued = 0;
        }

        void add(int slot, int first, int second, int third) {
            if (queued >= MOST) {
                lost++;
                return;
            }
            int at = queued * ROW;
            queue[at] = functions[slot];
            queue[at + 1] = first;
            queue[at + 2] = second;
            queue[at + 3] = third;
            queue[at + 4] = data[slot];
            queued++;
        }
    }

    private static final class Processor {
        static final int GOES_ON = 0, CALLS = 1, FAULTS = 2;

        private static final int LUI = 0x37, AUIPC = 0x17, JAL = 0x6F, JALR = 0x67, BRANCH = 0x63;
        private static final int LOAD = 0x03, STORE = 0x23, IMMEDIATE = 0x13, OPERATION = 0x33;
        private static final int ECALL_WORD = 0x73;
        private static final int OTHER = 0x20, MULTIPLY = 1;
        private static final int UPPER = 0xFFFFF000;

        private final Memory memory;

        Processor(Memory memory) {
            this.memory = memory;
        }

        /** Does one instruction but for ecall, which it only tells of; one that FAULTS changes nothing. */
        int step(UserProcess p) {
            if ((p.pc & 3) != 0 || !p.ownsInWords(p.pc, 4)) {
                return FAULTS;
            }
            int w = memory.load(p.pc, 4);
            if (w == ECALL_WORD) {
                return CALLS;
            }
            return perform(p, w) ? GOES_ON : FAULTS;
        }

        private boolean perform(UserProcess p, int w) {
            switch (w & 0x7F) {
                case LUI: return result(p, w, w & UPPER);
                case AUIPC: return result(p, w, p.pc + (w & UPPER));
                case JAL: return jump(p, w, p.pc + jumpOffset(w));
                case JALR: return kind(w) == 0 && jump(p, w, (p.x[source1(w)] + (w >> 20)) & ~1);
                case BRANCH: return branch(p, w);
                case LOAD: return load(p, w);
                case STORE: return store(p, w);
                case IMMEDIATE: return immediate(p, w);
                case OPERATION: return operation(p, w);
                default: return false;
            }
        }

        private static int kind(int w) {
            return (w >>> 12) & 7;
        }

        private static int source1(int w) {
            return (w >>> 15) & 31;
        }

        private static int source2(int w) {
            return (w >>> 20) & 31;
        }

        private static int target(int w) {
            return (w >>> 7) & 31;
        }

        private static boolean result(UserProcess p, int w, int value) {
            p.put(target(w), value);
            p.pc += 4;
            return true;
        }

        private static boolean jump(UserProcess p, int w, int goal) {
            p.put(target(w), p.pc + 4);
            p.pc = goal;
            return true;
        }

        private static int jumpOffset(int w) {
            return ((w >> 31) << 20) | (w & 0xFF000) | ((w >>> 9) & 0x800) | ((w >>> 20) & 0x7FE);
        }

        private static int branchOffset(int w) {
            return ((w >> 31) << 12) | ((w << 4) & 0x800) | ((w >>> 20) & 0x7E0) | ((w >>> 7) & 0x1E);
        }

        private static int storeOffset(int w) {
            return ((w >> 25) << 5) | ((w >>> 7) & 31);
        }

        private static boolean branch(UserProcess p, int w) {
            int a = p.x[source1(w)];
            int b = p.x[source2(w)];
            boolean taken;
            switch (kind(w)) {
                case 0: taken = a == b; break;
                case 1: taken = a != b; break;
                case 4: taken = a < b; break;
                case 5: taken = a >= b; break;
                case 6: taken = below(a, b); break;
                case 7: taken = !below(a, b); break;
                default: return false;
            }
            p.pc += taken ? branchOffset(w) : 4;
            return true;
        }

        private static boolean below(int a, int b) {
            return (a & UNSIGNED) < (b & UNSIGNED);
        }

        private boolean load(UserProcess p, int w) {
            int kind = kind(w);
            if (kind == 3 || kind > 5) {
                return false;
            }
            int octets = 1 << (kind & 3);
            int address = p.x[source1(w)] + (w >> 20);
            if (address % octets != 0 || !p.owns(address, octets)) {
                return false;
            }
            int value = memory.load(address, octets);
            if (kind == 0) {
                value = (byte) value;
            } else if (kind == 1) {
                value = (short) value;
            }
            return result(p, w, value);
        }

        private boolean store(UserProcess p, int w) {
            int kind = kind(w);
            if (kind > 2) {
                return false;
            }
            int octets = 1 << kind;
            int address = p.x[source1(w)] + storeOffset(w);
            if (address % octets != 0 || !p.ownsInBlock(address, octets)) {
                return false;
            }
            memory.store(address, octets, p.x[source2(w)]);
            p.pc += 4;
            return true;
        }

        private static boolean immediate(UserProcess p, int w) {
            int kind = kind(w);
            int upper = w >>> 25;
            boolean other = kind == 5 && upper == OTHER;
            boolean isShift = kind == 1 || kind == 5;
            if (isShift && upper != 0 && !other) {
                return false;
            }
            return result(p, w, basic(kind, other, p.x[source1(w)], w >> 20));
        }

        private static boolean operation(UserProcess p, int w) {
            int kind = kind(w);
            int upper = w >>> 25;
            int a = p.x[source1(w)];
            int b = p.x[source2(w)];
            if (upper == MULTIPLY) {
                return result(p, w, kind < 4 ? product(kind, a, b) : quotient(kind, a, b));
            }
            boolean other = upper == OTHER && (kind == 0 || kind == 5);
            if (upper != 0 && !other) {
                return false;
            }
            return result(p, w, basic(kind, other, a, b));
        }

        /** Java's shifts take the lowest five bits of b alone, as the machine's do. */
        private static int basic(int kind, boolean other, int a, int b) {
            switch (kind) {
                case 0: return other ? a - b : a + b;
                case 1: return a << b;
                case 2: return a < b ? 1 : 0;
                case 3: return below(a, b) ? 1 : 0;
                case 4: return a ^ b;
                case 5: return other ? a >> b : a >>> b;
                case 6: return a | b;
                default: return a & b;
            }
        }

        private static int product(int kind, int a, int b) {
            switch (kind) {
                case 0: return a * b;
                case 1: return (int) (((long) a * b) >> 32);
                case 2: return (int) ((a * (b & UNSIGNED)) >> 32);
                default: return (int) (((a & UNSIGNED) * (b & UNSIGNED)) >>> 32);
            }
        }

        private static int quotient(int kind, int a, int b) {
            boolean ofRemainder = kind >= 6;
            if (b == 0) {
                return ofRemainder ? a : -1;
            }
            // in longs the least int by -1 does not overflow before the cast
            boolean signed = kind == 4 || kind == 6;
            long dividend = signed ? a : a & UNSIGNED;
            long divisor = signed ? b : b & UNSIGNED;
            return (int) (ofRemainder ? dividend % divisor : dividend / divisor);
        }
    }

    private static final class SystemCalls {
        private static final int YIELD = 0, SUBSCRIBE = 1, COMMAND = 2;
        private static final int ALLOW_WRITE = 3, ALLOW_READ = 4, MEMOP = 5, EXIT = 6;

        private final Memory memory;
        private final Drivers drivers;

        SystemCalls(Memory memory, Drivers drivers) {
            this.memory = memory;
            this.drivers = drivers;
        }

        void serve(UserProcess p) {
            p.calls++;
            p.pc += 4;
            int a = p.x[UserProcess.A];
            int b = p.x[UserProcess.B];
            int callClass = p.x[UserProcess.CALL_CLASS];
            switch (callClass) {
                case YIELD:
                    giveWay(p, a);
                    break;
                case SUBSCRIBE:
                case COMMAND:
                case ALLOW_WRITE:
                case ALLOW_READ:
                    askDriver(p, callClass, a, b);
                    break;
                case MEMOP:
                    changeMemory(p, a, b);
                    break;
                case EXIT:
                    exit(p, a);
                    break;
                default:
                    p.no(Driver.NOT_SUPPORTED);
                    break;
            }
        }

        private static void giveWay(UserProcess p, int a) {
            if (p.upcalls.queued > 0) {
                p.doFirstUpcall();
            } else if (a == 0) {
                p.x[UserProcess.A] = 0;
            } else {
                p.stand = YIELDED;
            }
        }

        private void askDriver(UserProcess p, int callClass, int a, int b) {
            int c = p.x[UserProcess.C];
            int d = p.x[UserProcess.D];
            boolean needsGrant = callClass != COMMAND || b != 0;
            if (a < 0 || a >= Drivers.DRIVERS) {
                refuse(p, callClass, Driver.NO_DRIVER);
            } else if (needsGrant && !p.grant(a, Drivers.GRANTS[a])) {
                refuse(p, callClass, Driver.NO_MEMORY);
            } else if (callClass == COMMAND) {
                drivers.all[a].command(p, b, c, d);
            } else if (b < 0 || b > 1) {
                refuse(p, callClass, Driver.INVALID);
            } else if (callClass == SUBSCRIBE) {
                subscribe(p, 2 * a + b, c, d);
            } else {
                allow(p, callClass == ALLOW_WRITE, 2 * a + b, c, d);
            }
        }

        private static void refuse(UserProcess p, int callClass, int error) {
            if (callClass == COMMAND) {
                p.no(error);
            } else {
                p.no2(error, p.x[UserProcess.C], p.x[UserProcess.D]);
            }
        }

        private static void subscribe(UserProcess p, int slot, int function, int data) {
            Upcalls upcalls = p.upcalls;
            p.ok2(upcalls.functions[slot], upcalls.data[slot]);
            upcalls.functions[slot] = function;
            upcalls.data[slot] = data;
        }

        private static void allow(UserProcess p, boolean toWrite, int slot, int from, int octets) {
            long many = octets & UNSIGNED;
            boolean own = toWrite ? p.ownsInBlock(from, many) : p.owns(from, many);
            if (octets != 0 && !own) {
                p.no2(Driver.INVALID, from, octets);
                return;
            }
            int at = toWrite ? slot : slot + Upcalls.SLOTS;
            p.ok2(p.allowedFrom[at], p.allowedOctets[at]);
            p.allowedFrom[at] = from;
            p.allowedOctets[at] = octets;
        }

        private static void changeMemory(UserProcess p, int a, int b) {
            int before = p.breakAt;
            switch (a) {
                case 0:
                    if (p.moveBreak(b)) {
                        p.ok();
                    } else {
                        p.no(Driver.NO_MEMORY);
                    }
                    break;
                case 1:
                    if (p.moveBreak(before + b)) {
                        p.ok1(before);
                    } else {
                        p.no(Driver.NO_MEMORY);
                    }
                    break;
                case 2: p.ok1(p.header); break;
                case 3: p.ok1(p.wordsEnd); break;
                case 4: p.ok1(p.block); break;
                case 5: p.ok1(p.blockEnd()); break;
                default: p.no(Driver.NOT_SUPPORTED); break;
            }
        }

        private void exit(UserProcess p, int a) {
            if (a != 0 && a != 1) {
                p.no(Driver.NOT_SUPPORTED);
                return;
            }
            p.stand = STOPPED;
            drivers.release(p);
            if (a == 1) {
                p.start(memory);
            }
        }
    }

    private abstract static class Driver {
        static final int NONE = 1, BUSY = 2, NOT_SET = 3, INVALID = 6;
        static final int NO_MEMORY = 9, NOT_SUPPORTED = 10, NO_DRIVER = 11;

        abstract void command(UserProcess p, int number, int c, int d);

        /** Lets go of what it holds for a PROCESS that is STOPPED or FAULTED. */
        abstract void release(UserProcess p);

        abstract void forgetAll();
    }

    private static final class Drivers {
        static final int DRIVERS = 4;
        static final int[] GRANTS = {32, 48, 16, 8};

        final Alarm alarm = new Alarm();
        final Console console;
        final Buttons buttons = new Buttons();
        final Store store = new Store();
        final Driver[] all = new Driver[DRIVERS];

        Drivers(Memory memory) {
            console = new Console(memory);
            all[0] = alarm;
            all[1] = console;
            all[2] = buttons;
            all[3] = store;
        }

        void release(UserProcess p) {
            for (Driver driver : all) {
                driver.release(p);
            }
        }

        void forgetAll() {
            for (Driver driver : all) {
                driver.forgetAll();
            }
        }
    }

    private static final class Alarm extends Driver {
        private static final int UPCALL = 0;
        private static final long UNSET = -1;

        int ticks;
        // not wrapped round: an alarm beyond 2^32 TICKS must not ring at an early one
        private final long[] due = {UNSET, UNSET, UNSET, UNSET};

        void command(UserProcess p, int number, int c, int d) {
            switch (number) {
                case 0:
                    p.ok();
                    break;
                case 1:
                    p.ok1(ticks);
                    break;
                case 2:
                    due[p.number] = ticks + Math.max(1, c & UNSIGNED);
                    p.ok1((int) due[p.number]);
                    break;
                case 3:
                    if (due[p.number] == UNSET) {
                        p.no(NOT_SET);
                    } else {
                        due[p.number] = UNSET;
                        p.ok();
                    }
                    break;
                default:
                    p.no(NOT_SUPPORTED);
                    break;
            }
        }

        void ring(UserProcess p) {
            if (due[p.number] == ticks) {
                due[p.number] = UNSET;
                p.upcall(UPCALL, ticks, ticks, 0);
            }
        }

        void release(UserProcess p) {
            due[p.number] = UNSET;
        }

        void forgetAll() {
            ticks = 0;
            Arrays.fill(due, UNSET);
        }
    }

    private static final class Console extends Driver {
        private static final int UPCALL = 3;
        private static final int SOURCE = 3 + Upcalls.SLOTS;
        private static final int MOST_KEPT = 32;

        private final Memory memory;
        private final UserProcess[] row = new UserProcess[MOST_PROCESSES];
        private final int[] wanted = new int[MOST_PROCESSES];
        private final int[] written = new int[MOST_PROCESSES];
        private final int[] latest = new int[MOST_KEPT];
        int writers;
        int octets;

        Console(Memory memory) {
            this.memory = memory;
        }

        void command(UserProcess p, int number, int c, int d) {
            if (number == 0) {
                p.ok();
            } else if (number != 1) {
                p.no(NOT_SUPPORTED);
            } else if (placeOf(p) < writers) {
                p.no(BUSY);
            } else {
                p.ok();
                int many = (int) Math.min(c & UNSIGNED, p.allowedOctets[SOURCE] & UNSIGNED);
                if (many == 0) {
                    p.upcall(UPCALL, 0, 0, 0);
                } else {
                    join(p, many);
                }
            }
        }

        private int placeOf(UserProcess p) {
            int place = 0;
            while (place < writers && row[place] != p) {
                place++;
            }
            return place;
        }

        private void join(UserProcess p, int many) {
            if (writers < MOST_PROCESSES) {
                row[writers] = p;
                writers++;
                wanted[p.number] = many;
                written[p.number] = 0;
            }
        }

        void writeNext() {
            if (writers == 0) {
                return;
            }
            UserProcess p = row[0];
            latest[Math.floorMod(octets, MOST_KEPT)] = nextOctet(p, written[p.number]);
            octets++;
            written[p.number]++;
            if (written[p.number] == wanted[p.number]) {
                release(p);
                p.upcall(UPCALL, wanted[p.number], 0, 0);
            }
        }

        private int nextOctet(UserProcess p, int index) {
            int at = p.allowedFrom[SOURCE] + index;
            boolean longEnough = index < (p.allowedOctets[SOURCE] & UNSIGNED);
            return longEnough && p.owns(at, 1) ? memory.load(at, 1) : 0;
        }

        int kept() {
            return Math.min(octets, MOST_KEPT);
        }

        int octetBefore(int k) {
            return latest[Math.floorMod(octets - 1 - k, MOST_KEPT)];
        }

        void release(UserProcess p) {
            int place = placeOf(p);
            if (place == writers) {
                return;
            }
            writers--;
            for (int at = place; at < writers; at++) {
                row[at] = row[at + 1];
            }
        }

        void forgetAll() {
            writers = 0;
            octets = 0;
        }
    }

    private static final class Buttons extends Driver {
        private static final int UPCALL = 4;
        private static final int BUTTONS = 4;

        private int pressed;
        private final int[] wants = new int[MOST_PROCESSES];

        static boolean exists(int button) {
            return button >= 0 && button < BUTTONS;
        }

        void command(UserProcess p, int number, int c, int d) {
            if (number == 0) {
                p.ok1(BUTTONS);
            } else if (number < 0 || number > 3) {
                p.no(NOT_SUPPORTED);
            } else if (!exists(c)) {
                p.no(INVALID);
            } else if (number == 1) {
                wants[p.number] |= 1 << c;
                p.ok();
            } else if (number == 2) {
                wants[p.number] &= ~(1 << c);
                p.ok();
            } else {
                p.ok1(isPressed(c) ? 1 : 0);
            }
        }

        boolean isPressed(int button) {
            return (pressed & (1 << button)) != 0;
        }

        void change(int button) {
            pressed ^= 1 << button;
        }

        void tell(UserProcess p, int button) {
            if ((wants[p.number] & (1 << button)) != 0) {
                p.upcall(UPCALL, button, isPressed(button) ? 1 : 0, 0);
            }
        }

        void release(UserProcess p) {
            wants[p.number] = 0;
        }

        void forgetAll() {
            pressed = 0;
            Arrays.fill(wants, 0);
        }
    }

    private static final class Store extends Driver {
        private static final int MOST_KEYS = 6;

        private final int[] owners = new int[MOST_KEYS];
        private final int[] names = new int[MOST_KEYS];
        private final int[] values = new int[MOST_KEYS];
        int keys;

        void command(UserProcess p, int number, int c, int d) {
            int place = placeOf(p, c);
            boolean isThere = place < keys;
            if (number == 0) {
                p.ok();
            } else if (number == 2) {
                set(p, place, c, d);
            } else if (number != 1 && number != 3) {
                p.no(NOT_SUPPORTED);
            } else if (!isThere) {
                p.no(NONE);
            } else if (number == 1) {
                p.ok1(values[place]);
            } else {
                remove(place);
                p.ok();
            }
        }

        private int placeOf(UserProcess p, int key) {
            int place = 0;
            while (place < keys && (owners[place] != p.number || names[place] != key)) {
                place++;
            }
            return place;
        }

        private void set(UserProcess p, int place, int key, int value) {
            if (place >= MOST_KEYS) {
                p.no(NO_MEMORY);
                return;
            }
            owners[place] = p.number;
            names[place] = key;
            values[place] = value;
            keys = Math.max(keys, place + 1);
            p.ok();
        }

        private void remove(int place) {
            keys--;
            owners[place] = owners[keys];
            names[place] = names[keys];
            values[place] = values[keys];
        }

        /** Keys outlive what STOPS or FAULTS; only BOOT forgets them. */
        void release(UserProcess p) {
        }

        void forgetAll() {
            keys = 0;
        }
    }
}
