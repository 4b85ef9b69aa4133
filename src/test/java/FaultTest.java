/** A FAULT: what goes, what stays, and how often a PROCESS is started anew. */
public final class FaultTest {
    private static final int FAULT = 0;

    public static void main(String[] args) {
        policyLowered();
        policyRaised();
        eachHasItsOwnCount();
        exitDoesNotCount();
        whatDriversHoldGoes();
        othersKeepTheirs();
        storeStays();
        inTheMiddleOfATurn();
        faultsOfEveryKindCount();
        Check.done();
    }

    private static GrantKernel faulted(int policy, int times) {
        GrantKernel k = Program.booted(policy, 8, new Program().need(64).raw(FAULT));
        for (int i = 0; i < times; i++) {
            Check.due("a FAULT", k.run(1), 1);
        }
        return k;
    }

    /** 'if the POLICY is above how often it has been started anew by that'. */
    private static void policyLowered() {
        for (int lower = 0; lower <= 4; lower++) {
            GrantKernel k = faulted(9, 2);
            k.ways(lower, 8);
            k.run(1);
            boolean again = lower > 2;
            Check.due("stands with POLICY " + lower, k.look(0, 0), again ? GrantKernel.READY : GrantKernel.FAULTED);
            Check.due("STARTED with POLICY " + lower, k.look(0, 6), again ? 4 : 3);
            Check.due("FAULTS with POLICY " + lower, k.look(0, 7), 3);
        }
    }

    private static void policyRaised() {
        GrantKernel k = faulted(1, 1);
        k.ways(2, 8);
        k.run(60);
        Check.due("STARTED", k.look(0, 6), 3);
        k.ways(9, 8);
        Check.due("FAULTED is not READY", k.run(60), 0);
        Check.due("STARTED no more", k.look(0, 6), 3);
    }

    private static void eachHasItsOwnCount() {
        GrantKernel k = Program.booted(9, 8, new Program().need(64).raw(FAULT), new Program().need(64).raw(-1));
        Check.due("run(60)", k.run(60), 20);
        for (int p = 0; p < 2; p++) {
            Check.due("STARTED of " + p, k.look(p, 6), 10);
            Check.due("FAULTS of " + p, k.look(p, 7), 10);
            Check.due("stands of " + p, k.look(p, 0), GrantKernel.FAULTED);
        }
    }

    /** EXITs with 1 when key 1 is new to it, else FAULTS: 'started anew by that' counts FAULTS alone. */
    private static void exitDoesNotCount() {
        Program p = new Program().need(64).call(2, 3, 1, 1, 0)
            .raw(Program.typeB(1, 10, 0, 4 * (1 + 2 * Program.CALL_WORDS)))
            .call(2, 3, 2, 1, 5).call(6, 1, 0, 0, 0).raw(FAULT);
        for (int policy = 0; policy <= 2; policy++) {
            GrantKernel k = Program.booted(policy, 50, p);
            k.run(60);
            Check.due("STARTED with POLICY " + policy, k.look(0, 6), 2 + policy);
            Check.due("FAULTS with POLICY " + policy, k.look(0, 7), 1 + policy);
            Check.due("stands with POLICY " + policy, k.look(0, 0), GrantKernel.FAULTED);
        }
    }

    private static final int ASKS = 7;

    /** SUBSCRIBES first, then asks for an alarm, a BUTTON and the CONSOLE. */
    private static Program asking(int header) {
        return new Program().need(256)
            .call(1, 0, 0, header + 20, 0).call(1, 1, 1, header + 20, 0).call(1, 2, 0, header + 20, 0)
            .call(2, 0, 2, 3, 0).call(2, 2, 1, 1, 0).call(4, 1, 1, header + 20, 2).call(2, 1, 1, 2, 0);
    }

    private static void whatDriversHoldGoes() {
        for (int policy = 0; policy <= 1; policy++) {
            GrantKernel k = Program.booted(policy, Program.CALL_WORDS, asking(0).raw(FAULT));
            k.run(ASKS);
            Check.due("it writes", k.count(4), 1);
            Check.due("its GRANTS", k.look(0, 11), 7);
            Check.due("the FAULT alone", k.run(1), 1);
            Check.due("it writes no more", k.count(4), 0);
            Check.due("stands", k.look(0, 0), policy == 0 ? GrantKernel.FAULTED : GrantKernel.READY);
            k.run(3);
            Check.due("SUBSCRIBED again, or not", k.look(0, 10), policy == 0 ? ASKS : ASKS + 3);
            k.tick(9);
            k.press(1, true);
            Check.due("nothing is written", k.count(3), 0);
            Check.due("nothing is queued", k.look(0, 5), 0);
            Check.due("nothing is lost", k.look(0, 8), 0);
            Check.due("nothing is DONE", k.look(0, 9), 0);
        }
    }

    private static void othersKeepTheirs() {
        Program faults = new Program().need(64).raw(FAULT);
        GrantKernel k = Program.booted(0, Program.CALL_WORDS, asking(0).loop(), faults);
        k.run(ASKS + 1);
        Check.due("1 is FAULTED", k.look(1, 0), GrantKernel.FAULTED);
        k.tick(3);
        k.press(1, true);
        Check.due("0 wrote", k.count(3), 2);
        Check.due("0 has an alarm, a BUTTON and what it wrote", k.look(0, 5), 3);
        Check.due("nothing is queued for 1", k.look(1, 5), 0);
    }

    /** '(but for the STORE)': its keys count among the 6, though it is FAULTED. */
    private static void storeStays() {
        Program faults = new Program().need(64);
        for (int key = 0; key < 6; key++) {
            faults.call(2, 3, 2, key, key);
        }
        faults.raw(FAULT);
        Program asks = new Program().need(64).raw(Program.jal(0, 0));
        for (int policy = 0; policy <= 1; policy++) {
            GrantKernel k = Program.booted(policy, Program.CALL_WORDS, faults, asks);
            k.run(14);
            Check.due("FAULTS", k.look(0, 7), 1);
            Check.due("keys", k.count(5), 6);
        }
        Program late = new Program().need(64).call(0, 0, 0, 0, 0).call(2, 3, 2, 1, 1).call(2, 3, 1, 1, 0).loop();
        Program two = new Program().need(64).call(2, 3, 2, 1, 77).raw(FAULT);
        GrantKernel k = Program.booted(0, Program.CALL_WORDS, two, late);
        k.run(4);
        Check.due("0 is FAULTED", k.look(0, 0), GrantKernel.FAULTED);
        Check.due("each has its key 1", k.count(5), 2);
        k.run(1);
        Check.due("that of 1", k.register(1, 11), 1);
    }

    /** TURN: those that FAULT count, and the turn is over with it. */
    private static void inTheMiddleOfATurn() {
        int[] due = {1, 2, 3, 3, 3};
        for (int slice = 1; slice <= 5; slice++) {
            for (int policy = 0; policy <= 1; policy++) {
                Program p = new Program().need(64).raw(Program.addi(5, 5, 1), Program.addi(5, 5, 1), FAULT);
                GrantKernel k = Program.booted(policy, slice, p, new Program().need(64).loop());
                String name = " with SLICE " + slice + " and POLICY " + policy;
                Check.due("run(1)" + name, k.run(1), due[slice - 1]);
                boolean fell = slice >= 3;
                Check.due("FAULTS" + name, k.look(0, 7), fell ? 1 : 0);
                Check.due("x5" + name, k.register(0, 5), fell && policy == 1 ? 0 : Math.min(slice, 2));
                Check.due("the next turn" + name, k.run(1), slice);
                Check.due("was the other's" + name, k.count(6), 1);
                Check.due("count(1)" + name, k.count(1), due[slice - 1] + slice);
            }
        }
    }

    private static void faultsOfEveryKindCount() {
        int[] kinds = {FAULT, Program.jal(0, -4), Program.jal(0, 2), Program.lw(5, 0, 0), Program.lw(5, 11, 2),
            Program.load(1, 5, 11, 1), Program.sw(0, 5, 20), Program.sw(11, 5, 32), Program.typeS(1, 11, 5, 1),
            0x00100073, 0x0000000F};
        int[] instructions = {1, 2, 2, 1, 1, 1, 1, 1, 1, 1, 1};
        for (int i = 0; i < kinds.length; i++) {
            GrantKernel k = Program.booted(1, 8, new Program().need(64).raw(kinds[i], Program.addi(0, 0, 0)));
            Check.due("run(1) of kind " + i, k.run(1), instructions[i]);
            Check.due("FAULTS of kind " + i, k.look(0, 7), 1);
            Check.due("STARTED of kind " + i, k.look(0, 6), 2);
            Check.due("PC of kind " + i, k.register(0, 32), 20);
            Check.due("run(60) of kind " + i, k.run(60), instructions[i]);
            Check.due("stands of kind " + i, k.look(0, 0), GrantKernel.FAULTED);
            Check.due("word(4096) of kind " + i, k.word(4096), 0);
            Check.due("system calls of kind " + i, k.look(0, 10), 0);
        }
    }
}
