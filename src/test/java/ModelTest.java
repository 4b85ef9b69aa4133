import java.util.Random;

/**
 * Promises 1 to 13 together: runs of 512 calls, always the same ones, each answer held against the Model, which is the
 * document told once more.
 */
public final class ModelTest {
    private static final int RUNS = 1500;
    private static final int CALLS = 512;
    private static final int[] COUNTED = {5, 6, 7, 8, 9, 10, 11};

    private final Random random;
    private final GrantKernel kernel = new GrantKernel();
    private final Model model = new Model();
    private final String name;
    private int asked = 0;
    private boolean same = true;

    private ModelTest(int seed) {
        random = new Random(seed);
        name = "run " + seed;
    }

    public static void main(String[] args) {
        long[] seen = new long[COUNTED.length];
        for (int seed = 0; seed < RUNS; seed++) {
            ModelTest run = new ModelTest(seed);
            run.all();
            for (int i = 0; i < seen.length; i++) {
                seen[i] += run.sumOf(COUNTED[i]);
            }
        }
        for (int i = 0; i < seen.length; i++) {
            Check.due("the runs come to much of look " + COUNTED[i], seen[i] >= RUNS / 4, true);
        }
        Check.done();
    }

    private long sumOf(int look) {
        long sum = 0;
        for (int p = 0; p < model.count(0); p++) {
            sum += model.look(p, look);
        }
        return sum;
    }

    private void all() {
        int programs = 1 + random.nextInt(5);
        int at = 0;
        for (int i = 0; i < programs; i++) {
            Program p = program(4 * at, 220 / programs);
            for (int w : p.words()) {
                ask("flash", at++, w);
            }
        }
        ask("ways", random.nextInt(10), 1 + random.nextInt(50));
        ask("boot");
        while (asked < CALLS - 60) {
            anything();
        }
        while (asked < CALLS) {
            question();
        }
    }

    private void ask(String call, int... numbers) {
        if (asked >= CALLS) {
            return;
        }
        Call next = new Call(call, numbers);
        asked++;
        String want = next.askedOf(model);
        String got = next.askedOf(kernel);
        if (same) {
            same = got.equals(want);
            Check.due(name + ", call " + asked + " " + next + " answered " + got + ", due is " + want
                + ": the same", same, true);
        }
    }

    private int any(int... choices) {
        return choices[random.nextInt(choices.length)];
    }

    private Program program(int header, int most) {
        int[] needs = {64, 96, 128, 192, 256, 256, 512, 1024, 2048};
        Program p = new Program().need(any(needs)).flags(random.nextInt(8) == 0 ? 2 : 1);
        p.raw(Program.addi(5, 5, 1), Program.jalr(0, 1, 0)).entryHere();
        int again = p.here();
        beginning(p, header + 20);
        while (p.size() + 11 < most) {
            action(p, header);
            if (random.nextInt(9) == 0) {
                again = p.here();
            }
        }
        return p.raw(Program.jal(0, again - p.here()));
    }

    /** Without what it SUBSCRIBES to first, little would ever be queued. */
    private void beginning(Program p, int handler) {
        if (random.nextInt(3) > 0) {
            p.ask(1, 2, 0, handler, 1);
            p.ask(2, 2, 1, random.nextInt(4), 0);
        }
        if (random.nextInt(3) > 0) {
            p.ask(1, 0, 0, handler, 2);
        }
    }

    private void action(Program p, int header) {
        switch (random.nextInt(12)) {
            case 0:
                p.raw(Program.sb(2, any(5, 12, 14), any(-9, -10, -11)), Program.sw(2, any(5, 12, 14), any(-12, -20)));
                break;
            case 1: p.raw(instruction()); break;
            case 2: rare(p, header); break;
            default: systemCall(p, header + 20); break;
        }
    }

    /** x9 keeps a trace of the answer, which the next call would write over. */
    private void systemCall(Program p, int handler) {
        switch (random.nextInt(19)) {
            case 0: p.ask(1, 0, 0, handler, random.nextInt(90)); break;
            case 1: p.ask(1, 1, 1, handler, random.nextInt(90)); break;
            case 2: case 3: p.ask(1, 2, 0, handler, random.nextInt(90)); break;
            case 4: p.ask(4, 1, 1, handler + random.nextInt(20), random.nextInt(12)); break;
            case 5: p.ask(any(4, 4, 3), 1, 1, 4096 + random.nextInt(90), random.nextInt(12)); break;
            case 6: case 7: p.ask(2, 1, 1, random.nextInt(12), 0); break;
            case 8: case 9: p.ask(2, 0, any(2, 2, 2, 1, 3), random.nextInt(9), 0); break;
            case 10: case 11: p.ask(2, 2, any(1, 1, 1, 2, 3), random.nextInt(4), 0); break;
            case 12: case 13: p.ask(2, 3, any(1, 2, 2, 2, 3), random.nextInt(4), random.nextInt(90)); break;
            case 14: p.ask(5, 1, any(-32, -16, -8, -3, 0, 3, 8, 16, 32), 0, 0); break;
            case 15: manyKeys(p); break;
            default: p.ask(0, random.nextInt(2), 0, 0, 0); break;
        }
        p.raw(Program.typeR(32, 0, 9, any(10, 11), 9), Program.typeR(32, 0, 9, any(10, 11, 12, 13), 9));
    }

    /** Another key each time it comes here, so that the STORE fills up. */
    private void manyKeys(Program p) {
        p.raw(Program.addi(6, 6, 1), Program.typeI(0x13, 7, 12, 6, 7), Program.addi(13, 6, 0), Program.addi(10, 0, 3),
            Program.addi(11, 0, any(1, 2, 2, 2, 3)), Program.addi(14, 0, 2), Program.ECALL);
    }

    /** What ends it, and what is refused. */
    private void rare(Program p, int header) {
        switch (random.nextInt(8)) {
            case 0: p.ask(6, 1, 0, 0, 0); break;
            case 1: p.ask(6, any(0, 2), 0, 0, 0); break;
            case 2: p.raw(any(0, Program.sw(2, 5, 0), Program.lw(5, 2, -2), Program.jalr(0, 11, 0))); break;
            case 3: case 4: p.ask(5, random.nextInt(7), any(header, 4096, 4100), 0, 0); break;
            default:
                p.ask(random.nextInt(8), any(-1, 0, 1, 2, 3, 4), any(-1, 0, 1, 2, 3, 4), any(0, 1, 4096, header, -1),
                    any(0, 1, 5, -1));
                break;
        }
        p.raw(Program.typeR(32, 0, 9, 10, 9), Program.typeR(32, 0, 9, 11, 9));
    }

    private int instruction() {
        if (random.nextInt(6) == 0) {
            return Program.load(random.nextInt(6), any(5, 6, 7, 8), 2, any(-8, -16, -20));
        }
        int opcode = any(0x13, 0x13, 0x33, 0x33, 0x33, 0x17, 0x37);
        int f7 = opcode == 0x33 ? any(0, 1, 1) : 0;
        return Program.typeR(f7, random.nextInt(8), any(5, 6, 7, 8), any(2, 5, 6, 7, 8, 9), any(5, 6, 7, 8)) & ~127
            | opcode;
    }

    private void anything() {
        int kind = random.nextInt(400);
        if (kind < 120) {
            ask("run", 1 + random.nextInt(kind < 20 ? 60 : 6));
        } else if (kind < 190) {
            ask("tick", 1 + random.nextInt(kind < 130 ? 60 : 3));
        } else if (kind < 260) {
            ask("press", random.nextInt(4), random.nextInt(2));
        } else if (kind < 272) {
            ask("ways", random.nextInt(10), 1 + random.nextInt(50));
        } else if (kind < 273) {
            ask("boot");
        } else if (kind < 274) {
            haltAndChange();
        } else if (kind < 290) {
            wrong();
        } else {
            question();
        }
    }

    /** Halted it is asked on, a WORD of FLASH is another, or the first HEADER one of no PROCESS; then it is booted. */
    private void haltAndChange() {
        ask("halt");
        question();
        question();
        int k = random.nextInt(230);
        int w = model.word(4 * k);
        switch (random.nextInt(4)) {
            case 0:
                ask("flash", k, w ^ 1 << random.nextInt(32));
                break;
            case 1:
                ask("flash", 1, model.word(4) ^ 1);
                ask("flash", 4, model.word(16) ^ 1);
                break;
            default:
                ask("flash", k, instruction());
                break;
        }
        question();
        wrong();
        ask("boot");
    }

    private void wrong() {
        int odd = any(-1, 0, 1, 4, 5, 10, 33, 51, 60, 61, 512, 2048, 4095, Integer.MIN_VALUE, Integer.MAX_VALUE);
        switch (random.nextInt(11)) {
            case 0: ask("flash", odd, odd); break;
            case 1: ask("ways", odd, any(0, 1, 50, 51)); break;
            case 2: ask("ways", any(-1, 0, 9, 10), odd); break;
            case 3: ask("run", odd); break;
            case 4: ask("tick", odd); break;
            case 5: ask("press", odd, random.nextInt(2)); break;
            case 6: ask("register", odd, any(-1, 0, 32, 33)); break;
            case 7: ask("word", odd); break;
            case 8: ask("look", odd, any(-1, 0, 11, 12)); break;
            case 9: ask("console", odd); break;
            default: ask("count", odd); break;
        }
    }

    private void question() {
        switch (random.nextInt(8)) {
            case 0: case 1: ask("register", random.nextInt(4), any(1, 5, 6, 7, 8, 9, 9, 10, 11, 12, 13, 32)); break;
            case 2: ask("register", random.nextInt(4), random.nextInt(33)); break;
            case 3:
                ask("word", random.nextInt(6) == 0 ? 4 * random.nextInt(512) : 4096 + 4 * random.nextInt(1024));
                break;
            case 4: case 5: ask("look", random.nextInt(4), random.nextInt(12)); break;
            case 6: ask("console", random.nextInt(34)); break;
            default: ask("count", random.nextInt(7)); break;
        }
    }
}
