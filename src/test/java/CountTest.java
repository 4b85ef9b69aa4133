/** Promise 13. */
public final class CountTest {
    public static void main(String[] args) {
        GrantKernel k = new GrantKernel();
        int[] wrong = {-1, 7, 8, Integer.MIN_VALUE, Integer.MAX_VALUE};
        for (int what : wrong) {
            Check.thrown("count(" + what + ")", IllegalArgumentException.class, () -> k.count(what));
        }
        Program busy = new Program().need(256)
            .call(4, 1, 1, 20, 9).call(2, 1, 1, 9, 0).call(2, 3, 2, 5, 5).loop();
        int at = busy.into(k, 0);
        new Program().raw(0).into(k, at);
        k.ways(0, 33);
        k.boot();
        int[][] due = {
            {2, 0, 0, 0, 0, 0, -1},
            {2, 33, 0, 0, 1, 1, 0},
            {2, 34, 0, 0, 1, 1, 1},
            {2, 34, 4, 4, 1, 1, 1},
            {2, 34, 12, 9, 0, 1, 1},
        };
        for (int i = 0; i < due.length; i++) {
            for (int what = 0; what < 7; what++) {
                Check.due("count(" + what + ") at stage " + i, k.count(what), due[i][what]);
            }
            if (i < 2) {
                k.run(1);
            } else {
                k.tick(i == 2 ? 4 : 8);
            }
        }
        for (int what : wrong) {
            Check.thrown("count(" + what + ") booted", IllegalArgumentException.class, () -> k.count(what));
        }
        Check.done();
    }
}
