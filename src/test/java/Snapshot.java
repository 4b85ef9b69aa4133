import java.util.ArrayList;
import java.util.List;

/** All that can be asked of a kernel without changing it, but for most of its memory. */
final class Snapshot {
    private final List<Long> answers = new ArrayList<>();

    Snapshot(GrantKernel k) {
        for (int what = 0; what <= 6; what++) {
            answers.add((long) k.count(what));
        }
        for (int p = 0; p < k.count(0); p++) {
            for (int r = 0; r <= 32; r++) {
                answers.add((long) k.register(p, r));
            }
            for (int what = 0; what <= 11; what++) {
                answers.add((long) k.look(p, what));
            }
        }
        for (int octet = 0; octet < Math.min(32, k.count(3)); octet++) {
            answers.add((long) k.console(octet));
        }
        int[] addresses = {0, 4, 8, 12, 16, 20, 2044, 4096, 4100, 8188};
        for (int at : addresses) {
            answers.add((long) k.word(at));
        }
    }

    boolean isOf(GrantKernel k) {
        return answers.equals(new Snapshot(k).answers);
    }
}
