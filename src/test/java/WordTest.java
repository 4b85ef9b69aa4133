/** Promise 10. */
public final class WordTest {
    public static void main(String[] args) {
        Program p = new Program().need(2048).li(5, 0x81828384).li(6, 4096)
            .raw(Program.sw(6, 5, 0), Program.sb(6, 5, 5), Program.typeS(1, 6, 5, 10), Program.sb(6, 5, 15)).loop();
        GrantKernel k = Program.booted(0, 50, p);
        k.run(1);
        Check.due("word(4096)", k.word(4096), 0x81828384);
        Check.due("word(4100): the octet 1", k.word(4100), 0x8400);
        Check.due("word(4104): the HALF 2", k.word(4104), 0x83840000);
        Check.due("word(4108): the octet 3", k.word(4108), 0x84000000);
        Check.due("word(0)", k.word(0), p.size());
        Check.due("word(2044)", k.word(2044), 0);
        Check.due("word(8188)", k.word(8188), 0);
        int[] wrong = {-4, -1, 1, 2, 3, 2046, 2048, 2052, 4092, 4095, 4097, 4098, 4099, 8189, 8191, 8192, 8196,
            Integer.MIN_VALUE, Integer.MAX_VALUE, -4096, 0x80001000};
        for (int at : wrong) {
            Check.thrown("word(" + at + ")", IllegalArgumentException.class, () -> k.word(at));
        }
        Check.done();
    }
}
