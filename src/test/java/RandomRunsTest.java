import java.util.NoSuchElementException;
import java.util.Random;

/**
 * Random programs and calls, always the same ones: nothing but the exceptions of the headings ever comes out, and
 * what the terms say of every state holds.
 */
public final class RandomRunsTest {
    private static final int RUNS = 3000;
    private static final int MOST_CALLS = 512;
    /** One call and all that states() asks behind it, with four PROCESSES. */
    private static final int ROUND = 1 + 3 + 4 * 10;

    public static void main(String[] args) {
        for (int seed = 0; seed < RUNS; seed++) {
            Random random = new Random(seed);
            GrantKernel k = new GrantKernel();
            int calls = fill(k, random) + 2;
            k.ways(random.nextInt(10), 1 + random.nextInt(50));
            k.boot();
            for (; calls + ROUND <= MOST_CALLS; calls += ROUND) {
                anyCall(k, random);
                states(k, "seed " + seed + ", call " + calls);
            }
        }
        Check.done();
    }

    /** Answers how many calls that took. */
    private static int fill(GrantKernel k, Random random) {
        int at = 0;
        for (int i = 0; i < 1 + random.nextInt(5); i++) {
            Program p = new Program().need(64 + 16 * random.nextInt(30)).flags(random.nextInt(5) == 0 ? 2 : 1);
            int calls = 1 + random.nextInt(6);
            for (int c = 0; c < calls; c++) {
                someCode(p, random, 4 * at);
            }
            p.raw(Program.jal(0, 20 - p.here()));
            if (at + p.size() <= 300) {
                at = p.into(k, at);
            }
        }
        return at;
    }

    private static void someCode(Program p, Random random, int header) {
        if (random.nextInt(4) == 0) {
            p.raw(anyInstruction(random));
            return;
        }
        int[] numbers = {0, 1, 2, 3, 4, 20, -1, header + 20, 4096 + random.nextInt(512), random.nextInt()};
        p.call(random.nextInt(8), random.nextInt(5), random.nextInt(4), numbers[random.nextInt(numbers.length)],
            numbers[random.nextInt(numbers.length)]);
    }

    private static int anyInstruction(Random random) {
        int[] opcodes = {0x03, 0x13, 0x17, 0x23, 0x33, 0x37, 0x63, 0x67, 0x6F};
        int w = random.nextInt();
        return random.nextInt(8) == 0 ? w : w & ~127 | opcodes[random.nextInt(opcodes.length)];
    }

    private static int anyNumber(Random random, int bound) {
        return random.nextInt(6) == 0 ? random.nextInt() : random.nextInt(bound + 2) - 1;
    }

    private static void anyCall(GrantKernel k, Random random) {
        try {
            switch (random.nextInt(14)) {
                case 0: k.tick(anyNumber(random, 61)); break;
                case 1: k.press(anyNumber(random, 4), random.nextBoolean()); break;
                case 2: k.ways(anyNumber(random, 10), anyNumber(random, 51)); break;
                case 3: k.flash(anyNumber(random, 512), random.nextInt()); break;
                case 4: k.register(anyNumber(random, 4), anyNumber(random, 33)); break;
                case 5: k.word(anyNumber(random, 8192)); break;
                case 6: k.look(anyNumber(random, 4), anyNumber(random, 12)); break;
                case 7: k.console(anyNumber(random, 32)); break;
                case 8: k.count(anyNumber(random, 7)); break;
                case 9:
                    if (random.nextInt(10) == 0) {
                        k.halt();
                    }
                    break;
                case 10:
                    if (random.nextInt(5) == 0) {
                        k.boot();
                    }
                    break;
                default: k.run(anyNumber(random, 61)); break;
            }
        } catch (IllegalArgumentException | IllegalStateException | NoSuchElementException e) {
            onlyAsThrown(e);
        } catch (IndexOutOfBoundsException e) {
            onlyAsThrown(e);
        }
    }

    /** An exception of the machine itself, such as an index of an array, is of a class below. */
    private static void onlyAsThrown(RuntimeException e) {
        Class<?> c = e.getClass();
        boolean plain = c == IllegalArgumentException.class || c == IllegalStateException.class
            || c == NoSuchElementException.class || c == IndexOutOfBoundsException.class;
        Check.due(c + " is of a heading", plain, true);
    }

    private static void states(GrantKernel k, String name) {
        int processes = k.count(0);
        for (int p = 0; p < processes; p++) {
            int block = k.look(p, 2);
            int end = p + 1 < processes ? k.look(p + 1, 2) : 8192;
            int breakAt = k.look(p, 3);
            int low = k.look(p, 4);
            boolean inOrder = block <= breakAt && breakAt <= low && low <= end;
            Check.due(name + ": BLOCK, BREAK, LOW in order", inOrder, true);
            Check.due(name + ": x0", k.register(p, 0), 0);
            Check.due(name + ": queued at most 4", k.look(p, 5) <= 4, true);
            boolean sleepsWithWork = k.look(p, 0) == GrantKernel.YIELDED && k.look(p, 5) > 0;
            Check.due(name + ": YIELDED with an UPCALL queued", sleepsWithWork, false);
        }
        Check.due(name + ": keys at most 6", k.count(5) <= 6, true);
        Check.due(name + ": row", k.count(4) <= processes, true);
    }
}
