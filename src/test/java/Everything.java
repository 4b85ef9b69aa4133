import java.util.ArrayList;
import java.util.List;
import java.util.function.Supplier;

/** All that promises 9 to 13 show: every register, every WORD, all looks, octets and counts. */
final class Everything {
    /** An object is good for 512 calls alone: so many questions are asked of one, then the run is made again. */
    private static final int AT_ONCE = 200;

    private Everything() {
    }

    static List<Call> questions() {
        List<Call> all = new ArrayList<>();
        for (int what = -1; what <= 7; what++) {
            all.add(new Call("count", what));
        }
        for (int k = -1; k <= 33; k++) {
            all.add(new Call("console", k));
        }
        for (int p = 0; p <= 4; p++) {
            for (int r = 0; r <= 33; r++) {
                all.add(new Call("register", p, r));
            }
            for (int what = 0; what <= 12; what++) {
                all.add(new Call("look", p, what));
            }
        }
        for (int at = 0; at < 2048; at += 4) {
            all.add(new Call("word", at));
        }
        for (int at = 4096; at < 8192; at += 4) {
            all.add(new Call("word", at));
        }
        return all;
    }

    /** Both runs end with the same answers to all of them. */
    static void same(String name, Supplier<GrantKernel> got, Supplier<GrantKernel> want) {
        List<Call> all = questions();
        for (int from = 0; from < all.size(); from += AT_ONCE) {
            GrantKernel g = got.get();
            GrantKernel w = want.get();
            for (Call c : all.subList(from, Math.min(all.size(), from + AT_ONCE))) {
                String answer = c.askedOf(g);
                String due = c.askedOf(w);
                Check.due(name + ": " + c + " answered " + answer + ", due is " + due + ": the same",
                    answer.equals(due), true);
            }
        }
    }
}
