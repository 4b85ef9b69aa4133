import java.util.ArrayDeque;
import java.util.ArrayList;
import java.util.Arrays;
import java.util.Deque;
import java.util.HashMap;
import java.util.HashSet;
import java.util.List;
import java.util.Map;
import java.util.NoSuchElementException;
import java.util.Set;

/**
 * The document once more, sentence by sentence and with nothing of the program in it: a BOOT makes a new Machine, a
 * START a new State, so that what is to be 'as at first' or 'nothing' there cannot be forgotten.
 */
final class Model {
    private static final int[] GRANTS = {32, 48, 16, 8};
    private static final String[] BRANCHES = {"beq", "bne", "", "", "blt", "bge", "bltu", "bgeu"};
    private static final String[] LOADS = {"lb", "lh", "lw", "", "lbu", "lhu", "", ""};
    private static final String[] STORES = {"sb", "sh", "sw", "", "", "", "", ""};
    private static final String[] PLAIN = {"add", "sll", "slt", "sltu", "xor", "srl", "or", "and"};
    private static final String[] MULTIPLY = {"mul", "mulh", "mulhsu", "mulhu", "div", "divu", "rem", "remu"};

    /** What a PROCESS has since it STARTED. */
    private static final class State {
        final int[] x = new int[32];
        int pc;
        int breakAt;
        int low;
        int stands = GrantKernel.READY;
        final Map<Integer, int[]> subscribed = new HashMap<>();
        final Map<Integer, int[]> allowedToWrite = new HashMap<>();
        final Map<Integer, int[]> allowedToRead = new HashMap<>();
        final Set<Integer> granted = new HashSet<>();
        final Deque<int[]> queue = new ArrayDeque<>();
    }

    /** What a PROCESS has since BOOT. */
    private static final class Process {
        int header;
        int size;
        int block;
        int need;
        int entry;
        int started;
        int startedByFault;
        int faults;
        int lost;
        int done;
        int calls;
        State now;
        long alarm = -1;
        final Set<Integer> wanted = new HashSet<>();
        final Map<Integer, Integer> keys = new HashMap<>();
        int toWrite;
        int written;
    }

    /** What there is since BOOT. */
    private static final class Machine {
        final int[] ram = new int[8192];
        final List<Process> processes = new ArrayList<>();
        final List<Process> row = new ArrayList<>();
        final List<Integer> console = new ArrayList<>();
        final boolean[] pressed = new boolean[4];
        int ticks;
        int instructions;
        int last = -1;
    }

    private final int[] flash = new int[512];
    private Machine machine = new Machine();
    private boolean booted;
    private int policy;
    private int slice = 8;

    int flash(int k, int w) {
        argument(k >= 0 && k <= 511);
        state(!booted);
        int was = flash[k];
        flash[k] = w;
        return was;
    }

    int boot() {
        machine = new Machine();
        booted = true;
        int left = 4096;
        int k = 0;
        while (headerAt(k)) {
            boolean odd = flash[k + 1] % 2 != 0;
            if (odd && machine.processes.size() < 4 && flash[k + 2] <= left) {
                Process p = new Process();
                p.header = 4 * k;
                p.size = flash[k];
                p.need = flash[k + 2];
                p.entry = flash[k + 3];
                p.block = 8192 - left;
                left -= p.need;
                machine.processes.add(p);
                start(p);
            }
            k += flash[k];
        }
        return machine.processes.size();
    }

    private boolean headerAt(int k) {
        if (k + 5 > 512) {
            return false;
        }
        int all = 0;
        for (int i = 0; i < 5; i++) {
            all ^= flash[k + i];
        }
        long size = flash[k];
        int need = flash[k + 2];
        int entry = flash[k + 3];
        return all == 0 && size >= 5 && k + size <= 512 && need >= 64 && need <= 2048 && need % 16 == 0
            && entry >= 20 && entry < 4 * size && entry % 4 == 0;
    }

    private void start(Process p) {
        for (int i = 0; i < p.need; i++) {
            machine.ram[p.block + i] = 0;
        }
        State s = new State();
        s.breakAt = p.block + p.need / 2;
        s.low = p.block + p.need;
        s.pc = p.header + p.entry;
        s.x[2] = s.breakAt;
        s.x[10] = p.header;
        s.x[11] = p.block;
        s.x[12] = p.need;
        s.x[13] = s.breakAt;
        p.now = s;
        p.started++;
    }

    int halt() {
        state(booted);
        booted = false;
        return machine.processes.size();
    }

    boolean ways(int newPolicy, int newSlice) {
        if (newPolicy < 0 || newPolicy > 9 || newSlice < 1 || newSlice > 50) {
            return false;
        }
        policy = newPolicy;
        slice = newSlice;
        return true;
    }

    int run(int n) {
        argument(n >= 1 && n <= 60);
        state(booted);
        int before = machine.instructions;
        for (int i = 0; i < n && someIsReady(); i++) {
            do {
                machine.last = (machine.last + 1) % machine.processes.size();
            } while (machine.processes.get(machine.last).now.stands != GrantKernel.READY);
            turn(machine.processes.get(machine.last));
        }
        return machine.instructions - before;
    }

    private boolean someIsReady() {
        return machine.processes.stream().anyMatch(p -> p.now.stands == GrantKernel.READY);
    }

    private void turn(Process p) {
        State before = p.now;
        for (int i = 0; i < slice && p.now == before && before.stands == GrantKernel.READY; i++) {
            machine.instructions++;
            if (!instruction(p)) {
                p.faults++;
                p.now.stands = GrantKernel.FAULTED;
                letGo(p);
                if (policy > p.startedByFault) {
                    p.startedByFault++;
                    start(p);
                }
            }
        }
    }

    private void letGo(Process p) {
        p.alarm = -1;
        machine.row.remove(p);
        p.wanted.clear();
    }

    int tick(int n) {
        argument(n >= 1 && n <= 60);
        state(booted);
        for (int i = 0; i < n; i++) {
            machine.ticks++;
            for (Process p : machine.processes) {
                if (p.alarm == machine.ticks) {
                    p.alarm = -1;
                    upcall(p, 0, 0, machine.ticks, machine.ticks);
                }
            }
            if (!machine.row.isEmpty()) {
                write(machine.row.get(0));
            }
        }
        return machine.ticks;
    }

    private void write(Process p) {
        int[] from = p.now.allowedToRead.getOrDefault(11, new int[2]);
        boolean longEnough = Integer.compareUnsigned(p.written, from[1]) < 0;
        int at = from[0] + p.written;
        machine.console.add(longEnough && (inWords(p, at) || inBlock(p, at)) ? octet(at) : 0);
        p.written++;
        if (p.written == p.toWrite) {
            machine.row.remove(p);
            upcall(p, 1, 1, p.toWrite, 0);
        }
    }

    boolean press(int b, boolean on) {
        argument(b >= 0 && b <= 3);
        state(booted);
        if (machine.pressed[b] == on) {
            return false;
        }
        machine.pressed[b] = on;
        for (Process p : machine.processes) {
            if (p.wanted.contains(b)) {
                upcall(p, 2, 0, b, on ? 1 : 0);
            }
        }
        return true;
    }

    int register(int p, int r) {
        such(p);
        argument(r >= 0 && r <= 32);
        State s = machine.processes.get(p).now;
        return r == 32 ? s.pc : s.x[r];
    }

    int word(int address) {
        boolean there = address >= 0 && address < 2048 || address >= 4096 && address < 8192;
        argument(there && address % 4 == 0);
        return loaded(address, 4);
    }

    int look(int p, int what) {
        such(p);
        argument(what >= 0 && what <= 11);
        Process q = machine.processes.get(p);
        int grants = q.now.granted.stream().mapToInt(d -> 1 << d).sum();
        int[] all = {q.now.stands, q.header, q.block, q.now.breakAt, q.now.low, q.now.queue.size(), q.started, q.faults,
            q.lost, q.done, q.calls, grants};
        return all[what];
    }

    int console(int k) {
        int many = machine.console.size();
        if (k < 0 || k > 31 || k >= many) {
            throw new IndexOutOfBoundsException();
        }
        return machine.console.get(many - 1 - k);
    }

    int count(int what) {
        argument(what >= 0 && what <= 6);
        int keys = machine.processes.stream().mapToInt(p -> p.keys.size()).sum();
        int[] all = {machine.processes.size(), machine.instructions, machine.ticks, machine.console.size(),
            machine.row.size(), keys, machine.last};
        return all[what];
    }

    private static void argument(boolean fits) {
        if (!fits) {
            throw new IllegalArgumentException();
        }
    }

    private static void state(boolean fits) {
        if (!fits) {
            throw new IllegalStateException();
        }
    }

    private void such(int p) {
        if (p < 0 || p >= machine.processes.size()) {
            throw new NoSuchElementException();
        }
    }

    private static boolean inWords(Process p, int at) {
        return at >= p.header + 20 && at < p.header + 4 * p.size;
    }

    private static boolean inBlock(Process p, int at) {
        return at >= p.block && at < p.now.breakAt;
    }

    private int octet(int at) {
        return at < 2048 ? flash[at / 4] >> 8 * (at % 4) & 255 : machine.ram[at];
    }

    private int loaded(int at, int octets) {
        int value = 0;
        for (int i = octets - 1; i >= 0; i--) {
            value = value * 256 + octet(at + i);
        }
        return value;
    }

    private boolean mayLoad(Process p, int at, int octets) {
        for (int i = 0; i < octets; i++) {
            if (!inWords(p, at + i) && !inBlock(p, at + i)) {
                return false;
            }
        }
        return at % octets == 0;
    }

    private boolean mayStore(Process p, int at, int octets) {
        for (int i = 0; i < octets; i++) {
            if (!inBlock(p, at + i)) {
                return false;
            }
        }
        return at % octets == 0;
    }

    private static String nameOf(int w) {
        int f3 = w >>> 12 & 7;
        int f7 = w >>> 25;
        boolean shift = f3 == 1 || f3 == 5;
        String other = f7 == 32 && f3 == 5 ? "sra" : "";
        switch (w & 127) {
            case 0x37: return "lui";
            case 0x17: return "auipc";
            case 0x6F: return "jal";
            case 0x67: return f3 == 0 ? "jalr" : "";
            case 0x63: return BRANCHES[f3];
            case 0x03: return LOADS[f3];
            case 0x23: return STORES[f3];
            case 0x13: return !shift || f7 == 0 ? PLAIN[f3] : other;
            case 0x33: return f7 == 0 ? PLAIN[f3] : f7 == 1 ? MULTIPLY[f3] : f7 == 32 && f3 == 0 ? "sub" : other;
            case 0x73: return w == 0x73 ? "ecall" : "";
            default: return "";
        }
    }

    /** False if it FAULTS. */
    private boolean instruction(Process p) {
        State s = p.now;
        if (s.pc % 4 != 0 || !inWords(p, s.pc)) {
            return false;
        }
        int w = loaded(s.pc, 4);
        String name = nameOf(w);
        int rd = w >>> 7 & 31;
        int a = s.x[w >>> 15 & 31];
        int b = (w & 127) == 0x13 ? w >> 20 : s.x[w >>> 20 & 31];
        int on = s.pc + 4;
        int goal = on;
        int value = 0;
        switch (name) {
            case "": return false;
            case "ecall":
                s.pc = on;
                p.calls++;
                systemCall(p, s);
                return true;
            case "lui": value = w & -4096; break;
            case "auipc": value = s.pc + (w & -4096); break;
            case "jal":
                goal = s.pc + signed(bits(w, 31, 1) << 20 | bits(w, 12, 8) << 12 | bits(w, 20, 1) << 11
                    | bits(w, 21, 10) << 1, 21);
                value = on;
                break;
            case "jalr": goal = a + (w >> 20) & -2; value = on; break;
            case "beq": case "bne": case "blt": case "bge": case "bltu": case "bgeu":
                if (taken(name, a, b)) {
                    goal = s.pc + signed(bits(w, 31, 1) << 12 | bits(w, 7, 1) << 11 | bits(w, 25, 6) << 5
                        | bits(w, 8, 4) << 1, 13);
                }
                rd = 0;
                break;
            case "lb": case "lh": case "lw": case "lbu": case "lhu": {
                int octets = name.charAt(1) == 'b' ? 1 : name.charAt(1) == 'h' ? 2 : 4;
                int at = a + (w >> 20);
                if (!mayLoad(p, at, octets)) {
                    return false;
                }
                value = loaded(at, octets);
                value = name.endsWith("u") ? value : signed(value, 8 * octets);
                break;
            }
            case "sb": case "sh": case "sw": {
                int octets = name.equals("sb") ? 1 : name.equals("sh") ? 2 : 4;
                int at = a + signed(bits(w, 25, 7) << 5 | bits(w, 7, 5), 12);
                if (!mayStore(p, at, octets)) {
                    return false;
                }
                for (int i = 0; i < octets; i++) {
                    machine.ram[at + i] = b >> 8 * i & 255;
                }
                rd = 0;
                break;
            }
            default: value = reckoned(name, a, b); break;
        }
        if (rd != 0) {
            s.x[rd] = value;
        }
        s.pc = goal;
        return true;
    }

    private static int bits(int w, int from, int many) {
        return w >>> from & (1 << many) - 1;
    }

    private static int signed(int value, int bits) {
        return value << 32 - bits >> 32 - bits;
    }

    private static boolean taken(String name, int a, int b) {
        switch (name) {
            case "beq": return a == b;
            case "bne": return a != b;
            case "blt": return a < b;
            case "bge": return a >= b;
            case "bltu": return Integer.compareUnsigned(a, b) < 0;
            default: return Integer.compareUnsigned(a, b) >= 0;
        }
    }

    private static int reckoned(String name, int a, int b) {
        long ua = Integer.toUnsignedLong(a);
        long ub = Integer.toUnsignedLong(b);
        switch (name) {
            case "add": return a + b;
            case "sub": return a - b;
            case "sll": return a << b % 32;
            case "slt": return a < b ? 1 : 0;
            case "sltu": return ua < ub ? 1 : 0;
            case "xor": return a ^ b;
            case "srl": return a >>> b % 32;
            case "sra": return a >> b % 32;
            case "or": return a | b;
            case "and": return a & b;
            case "mul": return a * b;
            case "mulh": return (int) (Math.multiplyHigh((long) a << 32, (long) b << 32) >> 32);
            case "mulhsu": return (int) (a * ub >> 32);
            case "mulhu": return (int) (ua * ub >>> 32);
            case "div": return b == 0 ? -1 : b == -1 ? -a : a / b;
            case "divu": return b == 0 ? -1 : Integer.divideUnsigned(a, b);
            case "rem": return b == 0 ? a : b == -1 ? 0 : a % b;
            default: return b == 0 ? a : Integer.remainderUnsigned(a, b);
        }
    }

    private static void answer(State s, int... values) {
        System.arraycopy(values, 0, s.x, 10, values.length);
    }

    private void systemCall(Process p, State s) {
        int a = s.x[10];
        int b = s.x[11];
        int c = s.x[12];
        int d = s.x[13];
        switch (s.x[14]) {
            case 0:
                if (!s.queue.isEmpty()) {
                    done(p);
                } else if (a == 0) {
                    s.x[10] = 0;
                } else {
                    s.stands = GrantKernel.YIELDED;
                }
                break;
            case 1: case 3: case 4: {
                int error = a < 0 || a > 3 ? 11 : !hasGrant(s, a) ? 9 : b != 0 && b != 1 ? 6 : 0;
                int[] was = error == 0 ? exchange(p, s.x[14], 10 * a + b, c, d) : null;
                if (was != null) {
                    answer(s, 130, was[0], was[1]);
                } else {
                    answer(s, 2, error == 0 ? 6 : error, c, d);
                }
                break;
            }
            case 2:
                if (a < 0 || a > 3) {
                    answer(s, 0, 11);
                } else if (b != 0 && !hasGrant(s, a)) {
                    answer(s, 0, 9);
                } else {
                    command(p, 10 * a + Math.min(Math.max(b, -1), 4), a, c, d);
                }
                break;
            case 5: memop(p, a, b); break;
            case 6:
                if (a != 0 && a != 1) {
                    answer(s, 0, 10);
                    break;
                }
                s.stands = GrantKernel.STOPPED;
                letGo(p);
                if (a == 1) {
                    start(p);
                }
                break;
            default: answer(s, 0, 10); break;
        }
    }

    private static boolean hasGrant(State s, int driver) {
        if (!s.granted.contains(driver) && s.low - GRANTS[driver] >= s.breakAt) {
            s.low -= GRANTS[driver];
            s.granted.add(driver);
        }
        return s.granted.contains(driver);
    }

    /** What was there; null if what is ALLOWED is not all OWN. */
    private int[] exchange(Process p, int callClass, int key, int c, int d) {
        State s = p.now;
        if (callClass != 1 && d != 0) {
            long end = Integer.toUnsignedLong(c) + Integer.toUnsignedLong(d);
            boolean block = end <= s.breakAt && inBlock(p, c);
            boolean words = end <= p.header + 4 * p.size && inWords(p, c);
            if (!block && (callClass == 3 || !words)) {
                return null;
            }
        }
        Map<Integer, int[]> where = callClass == 1 ? s.subscribed : callClass == 3 ? s.allowedToWrite : s.allowedToRead;
        int[] was = where.put(key, new int[] {c, d});
        return was == null ? new int[2] : was;
    }

    private void memop(Process p, int a, int b) {
        State s = p.now;
        int before = s.breakAt;
        if (a == 0 || a == 1) {
            long to = a == 0 ? b : (long) before + b;
            if (to < p.block || to > s.low) {
                answer(s, 0, 9);
                return;
            }
            s.breakAt = (int) to;
        }
        switch (a) {
            case 0: answer(s, 128); break;
            case 1: answer(s, 129, before); break;
            case 2: answer(s, 129, p.header); break;
            case 3: answer(s, 129, p.header + 4 * p.size); break;
            case 4: answer(s, 129, p.block); break;
            case 5: answer(s, 129, p.block + p.need); break;
            default: answer(s, 0, 10); break;
        }
    }

    /** Which is ten times the DRIVER and the number; numbers that none has are -1 or 4. */
    private void command(Process p, int which, int driver, int c, int d) {
        State s = p.now;
        boolean isButton = c >= 0 && c <= 3;
        if (driver == 2 && which > 20 && which < 24 && !isButton) {
            answer(s, 0, 6);
            return;
        }
        switch (which) {
            case 0: case 10: case 30: answer(s, 128); break;
            case 1: answer(s, 129, machine.ticks); break;
            case 2:
                p.alarm = machine.ticks + Math.max(Integer.toUnsignedLong(c), 1);
                answer(s, 129, (int) p.alarm);
                break;
            case 3:
                answer(s, p.alarm < 0 ? new int[] {0, 3} : new int[] {128});
                p.alarm = -1;
                break;
            case 11: beginToWrite(p, c); break;
            case 20: answer(s, 129, 4); break;
            case 21: p.wanted.add(c); answer(s, 128); break;
            case 22: p.wanted.remove(c); answer(s, 128); break;
            case 23: answer(s, 129, machine.pressed[c] ? 1 : 0); break;
            case 31: answer(s, p.keys.containsKey(c) ? new int[] {129, p.keys.get(c)} : new int[] {0, 1}); break;
            case 32:
                if (!p.keys.containsKey(c) && count(5) == 6) {
                    answer(s, 0, 9);
                } else {
                    p.keys.put(c, d);
                    answer(s, 128);
                }
                break;
            case 33: answer(s, p.keys.remove(c) != null ? new int[] {128} : new int[] {0, 1}); break;
            default: answer(s, 0, 10); break;
        }
    }

    private void beginToWrite(Process p, int c) {
        if (machine.row.contains(p)) {
            answer(p.now, 0, 2);
            return;
        }
        answer(p.now, 128);
        int allowed = p.now.allowedToRead.getOrDefault(11, new int[2])[1];
        p.toWrite = Integer.compareUnsigned(c, allowed) < 0 ? c : allowed;
        p.written = 0;
        if (p.toWrite == 0) {
            upcall(p, 1, 1, 0, 0);
        } else {
            machine.row.add(p);
        }
    }

    private void upcall(Process p, int driver, int number, int first, int second) {
        int[] subscribed = p.now.subscribed.getOrDefault(10 * driver + number, new int[2]);
        if (subscribed[0] == 0) {
            return;
        }
        if (p.now.queue.size() == 4) {
            p.lost++;
            return;
        }
        p.now.queue.add(new int[] {subscribed[0], first, second, 0, subscribed[1]});
        if (p.now.stands == GrantKernel.YIELDED) {
            p.now.stands = GrantKernel.READY;
            done(p);
        }
    }

    private static void done(Process p) {
        int[] first = p.now.queue.remove();
        p.now.x[1] = p.now.pc;
        p.now.pc = first[0];
        answer(p.now, Arrays.copyOfRange(first, 1, 5));
        p.done++;
    }
}
