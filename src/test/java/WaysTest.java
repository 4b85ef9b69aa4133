/** Promise 5. */
public final class WaysTest {
    public static void main(String[] args) {
        slices();
        policies();
        outOfRange();
        changedWhileBooted();
        Check.done();
    }

    private static void slices() {
        for (int slice = 1; slice <= 50; slice++) {
            GrantKernel k = Program.booted(0, 8, new Program().loop());
            Check.due("ways(0, " + slice + ")", k.ways(0, slice), true);
            Check.due("run(1) with SLICE " + slice, k.run(1), slice);
        }
    }

    private static void policies() {
        for (int policy = 0; policy <= 9; policy++) {
            GrantKernel k = Program.booted(policy, 8, new Program().raw(0));
            Check.due("run(60) with POLICY " + policy, k.run(60), policy + 1);
            Check.due("STARTED", k.look(0, 6), policy + 1);
            Check.due("FAULTS", k.look(0, 7), policy + 1);
            Check.due("how it stands", k.look(0, 0), GrantKernel.FAULTED);
        }
    }

    private static void outOfRange() {
        int[][] wrong = {{-1, 8}, {10, 8}, {0, 0}, {0, 51}, {0, -1}, {10, 51}, {Integer.MAX_VALUE, 1},
            {Integer.MIN_VALUE, 1}, {1, Integer.MAX_VALUE}, {1, Integer.MIN_VALUE}, {5, 0}, {5, 51}};
        for (int[] w : wrong) {
            GrantKernel k = Program.booted(2, 7, new Program().raw(0), new Program().loop());
            Check.due("ways(" + w[0] + ", " + w[1] + ")", k.ways(w[0], w[1]), false);
            k.run(8);
            Check.due("POLICY stays", k.look(0, 6), 3);
            Check.due("SLICE stays", k.run(1), 7);
        }
    }

    private static void changedWhileBooted() {
        GrantKernel k = Program.booted(1, 8, new Program().raw(0), new Program().loop());
        k.run(1);
        Check.due("STARTED again", k.look(0, 6), 2);
        k.ways(3, 2);
        Check.due("run(4) with the new SLICE", k.run(4), 2 + 1 + 2 + 1);
        Check.due("the new POLICY counts the old one's", k.look(0, 6), 4);
        k.run(2);
        Check.due("FAULTED at last", k.look(0, 0), GrantKernel.FAULTED);
        k.ways(9, 2);
        k.run(5);
        Check.due("what is FAULTED stays so", k.look(0, 0), GrantKernel.FAULTED);
        Check.due("ways of one that is not booted", new GrantKernel().ways(9, 50), true);
    }
}
