import java.util.ArrayList;
import java.util.List;
import java.util.function.Consumer;

/**
 * One PROCESS that makes system calls one after another, each with the answer that is due, and between them
 * what is done from outside. The function HANDLER goes back at once to where an UPCALL came in.
 */
final class Script {
    static final int HANDLER = Program.HEADER_OCTETS;
    private static final int YIELDS = 0;

    private final String name;
    private final Program program = new Program().raw(Program.jalr(0, 1, 0)).entryHere();
    private final List<Consumer<GrantKernel>> steps = new ArrayList<>();
    private int rawWords = 0;

    Script(String name) {
        this.name = name;
    }

    Script need(int octets) {
        program.need(octets);
        return this;
    }

    /** A call whose answer is told by the registers from x10 on; those not told stay. */
    Script call(int callClass, int a, int b, int c, int d, int... due) {
        int[] full = {a, b, c, d};
        System.arraycopy(due, 0, full, 0, due.length);
        program.call(callClass, a, b, c, d);
        String text = name + ", step " + (steps.size() + 1) + " (" + callClass + ": " + a + " " + b + " " + c + " "
            + d + ")";
        int instructions = Program.CALL_WORDS + rawWords;
        rawWords = 0;
        steps.add(k -> {
            runOneCall(k, instructions);
            for (int i = 0; i < 4; i++) {
                Check.due(text + " x" + (10 + i), k.register(0, 10 + i), full[i]);
            }
        });
        return this;
    }

    Script ok(int callClass, int a, int b, int c, int d) {
        return call(callClass, a, b, c, d, 128);
    }

    Script ok1(int v, int callClass, int a, int b, int c, int d) {
        return call(callClass, a, b, c, d, 129, v);
    }

    Script ok2(int v, int w, int callClass, int a, int b, int c, int d) {
        return call(callClass, a, b, c, d, 130, v, w);
    }

    Script no(int e, int callClass, int a, int b, int c, int d) {
        return call(callClass, a, b, c, d, 0, e);
    }

    Script no2(int e, int callClass, int a, int b, int c, int d) {
        return call(callClass, a, b, c, d, 2, e, c, d);
    }

    /** YIELD that finds an UPCALL, with its numbers and data. */
    Script upcall(int first, int second, int third, int data) {
        return call(YIELDS, 0, 0, 0, 0, first, second, third, data);
    }

    /** YIELD that finds none. */
    Script noUpcall() {
        return call(YIELDS, 0, 0, 0, 0, 0);
    }

    /** Instructions that do not jump, done before the next call. */
    Script raw(int... words) {
        program.raw(words);
        rawWords += words.length;
        return this;
    }

    Script then(Consumer<GrantKernel> step) {
        steps.add(step);
        return this;
    }

    Script look(int what, int want) {
        String text = name + ", step " + (steps.size() + 1) + " look(0, " + what + ")";
        return then(k -> Check.due(text, k.look(0, what), want));
    }

    Script count(int what, int want) {
        String text = name + ", step " + (steps.size() + 1) + " count(" + what + ")";
        return then(k -> Check.due(text, k.count(what), want));
    }

    /** In one turn of just as many instructions as it takes, for an object is good for 512 calls alone. */
    private static void runOneCall(GrantKernel k, int instructions) {
        boolean comesFromHandler = k.register(0, 32) == HANDLER;
        k.ways(0, instructions + (comesFromHandler ? 1 : 0));
        k.run(1);
    }

    GrantKernel play() {
        program.loop();
        GrantKernel k = Program.booted(0, 1, program);
        for (Consumer<GrantKernel> step : steps) {
            step.accept(k);
        }
        return k;
    }
}
