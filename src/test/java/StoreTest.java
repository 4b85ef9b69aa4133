/** DRIVER 3. */
public final class StoreTest {
    public static void main(String[] args) {
        commands();
        sixKeys();
        eachOfItsOwn();
        goneAmongOthers();
        outlivesStarts();
        seventhKey();
        anyKeyAnyValue();
        keysOfFour();
        goneIsNew();
        Check.done();
    }

    private static void commands() {
        new Script("STORE")
            .ok(2, 3, 0, 5, 6)
            .no(1, 2, 3, 1, 5, 6)
            .no(1, 2, 3, 3, 5, 6)
            .ok(2, 3, 2, 5, 77).count(5, 1)
            .ok1(77, 2, 3, 1, 5, 0)
            .ok(2, 3, 2, 5, -78).count(5, 1)
            .ok1(-78, 2, 3, 1, 5, 0)
            .ok(2, 3, 2, 0, 0).count(5, 2)
            .ok1(0, 2, 3, 1, 0, 9)
            .ok(2, 3, 2, -1, 9).count(5, 3)
            .ok(2, 3, 3, 5, 0).count(5, 2)
            .no(1, 2, 3, 1, 5, 0)
            .no(1, 2, 3, 3, 5, 0).count(5, 2)
            .ok1(9, 2, 3, 1, -1, 0)
            .ok1(0, 2, 3, 1, 0, 1)
            .no(10, 2, 3, 4, 5, 6)
            .no(10, 2, 3, -1, 5, 6)
            .play();
    }

    private static void sixKeys() {
        Script s = new Script("six keys");
        for (int i = 0; i < 6; i++) {
            s.ok(2, 3, 2, i, 100 + i).count(5, i + 1);
        }
        s.no(9, 2, 3, 2, 6, 106).count(5, 6)
            .no(1, 2, 3, 1, 6, 0)
            .ok(2, 3, 2, 3, 200).count(5, 6)
            .ok(2, 3, 3, 0, 0).count(5, 5)
            .ok(2, 3, 2, 6, 106).count(5, 6);
        int[] values = {101, 102, 200, 104, 105, 106};
        for (int i = 0; i < 6; i++) {
            s.ok1(values[i], 2, 3, 1, i + 1, 0);
        }
        for (int i = 0; i < 6; i++) {
            s.ok(2, 3, 3, i + 1, 0).count(5, 5 - i);
        }
        s.no(1, 2, 3, 1, 6, 0).play();
    }

    /** Both set key 1; the second can neither see nor take away the first's key 2; six are for both. */
    private static void eachOfItsOwn() {
        Program first = new Program().need(64).call(2, 3, 2, 1, 11).call(2, 3, 2, 2, 12).call(0, 0, 0, 0, 0)
            .call(2, 3, 1, 1, 0).loop();
        int[][] asks = {{2, 1, 21}, {1, 2, 0}, {3, 2, 0}, {1, 1, 0}, {2, 5, 5}, {2, 6, 6}, {2, 7, 7}, {2, 8, 8},
            {2, 2, 9}};
        int[][] due = {{128, 2}, {0, 1}, {0, 1}, {129, 21}, {128, 2}, {128, 2}, {128, 2}, {0, 9}, {0, 9}};
        int[] keys = {3, 3, 3, 3, 4, 5, 6, 6, 6};
        Program second = new Program().need(64);
        for (int[] ask : asks) {
            second.call(2, 3, ask[0], ask[1], ask[2]);
        }
        GrantKernel k = Program.booted(0, 33, first, second);
        k.run(1);
        k.ways(0, 11);
        for (int i = 0; i < asks.length; i++) {
            k.run(i == 0 ? 1 : 2);
            String name = "the second's command " + i;
            Check.due(name + ": x10", k.register(1, 10), due[i][0]);
            Check.due(name + ": x11", k.register(1, 11), due[i][1]);
            Check.due(name + ": keys", k.count(5), keys[i]);
        }
        Check.due("key 1 of the first", k.register(0, 11), 11);
    }

    /** The first takes away its key when the last one made is the second's, of the same name as another. */
    private static void goneAmongOthers() {
        Program first = new Program().need(64).call(2, 3, 2, 1, 11).call(2, 3, 3, 1, 0).call(2, 3, 1, 2, 0).loop();
        Program second = new Program().need(64).call(2, 3, 2, 2, 22).call(2, 3, 1, 2, 0).loop();
        GrantKernel k = Program.booted(0, 11, first, second);
        k.run(3);
        Check.due("one is left", k.count(5), 1);
        k.run(2);
        Check.due("the second has its key: x10", k.register(1, 10), 129);
        Check.due("the second has its key: x11", k.register(1, 11), 22);
        Check.due("the first has none: x10", k.register(0, 10), 0);
        Check.due("the first has none: x11", k.register(0, 11), 1);
    }

    private static void outlivesStarts() {
        Program p = new Program().need(64).call(2, 3, 1, 1, 0).raw(Program.addi(31, 11, 0)).call(2, 3, 2, 1, 44)
            .call(6, 1, 0, 0, 0);
        GrantKernel k = Program.booted(0, 34, p);
        k.run(1);
        Check.due("STARTED again", k.look(0, 6), 2);
        k.ways(0, 12);
        k.run(1);
        Check.due("the key is there", k.register(0, 31), 44);
        Check.due("one key", k.count(5), 1);
        k.boot();
        Check.due("BOOT takes it", k.count(5), 0);
    }

    /** STORE 2: NO 9 if it is new and there are 6; one that is there gets its value; one that is gone makes room. */
    private static void seventhKey() {
        Script s = new Script("the seventh key");
        for (int i = 0; i < 5; i++) {
            s.ok(2, 3, 2, 10 + i, i);
        }
        s.ok(2, 3, 2, 15, 5).count(5, 6)
            .no(9, 2, 3, 2, 16, 6).count(5, 6)
            .no(9, 2, 3, 2, 0, 0).count(5, 6)
            .no(1, 2, 3, 1, 16, 0).no(1, 2, 3, 3, 16, 0).count(5, 6)
            .ok(2, 3, 2, 10, 100).ok(2, 3, 2, 15, 105).count(5, 6)
            .ok1(100, 2, 3, 1, 10, 0).ok1(105, 2, 3, 1, 15, 0).ok1(4, 2, 3, 1, 14, 0)
            .ok(2, 3, 3, 15, 0).count(5, 5)
            .ok(2, 3, 2, 16, 6).count(5, 6)
            .no(9, 2, 3, 2, 15, 6)
            .play();
    }

    /** Any int is a key, and any int a value: 0 and -1 too are keys that are there or not. */
    private static void anyKeyAnyValue() {
        int[] all = {0, 1, -1, Integer.MIN_VALUE, Integer.MAX_VALUE};
        for (int key : all) {
            for (int value : all) {
                new Script("key " + key + ", value " + value)
                    .no(1, 2, 3, 1, key, 9)
                    .no(1, 2, 3, 3, key, 9).count(5, 0)
                    .ok(2, 3, 2, key, value).count(5, 1)
                    .ok1(value, 2, 3, 1, key, 9)
                    .ok(2, 3, 3, key, 9).count(5, 0)
                    .no(1, 2, 3, 1, key, 9)
                    .no(1, 2, 3, 3, key, 9)
                    .play();
            }
        }
    }

    /** Each of four PROCESSES has a key 1 of its own; the seventh key in all is one too many. */
    private static void keysOfFour() {
        Program[] all = new Program[4];
        for (int p = 0; p < 4; p++) {
            all[p] = new Program().need(64).call(2, 3, 2, 1, 70 + p).call(2, 3, 2, 2, 80 + p).call(2, 3, 1, 1, 0)
                .loop();
        }
        GrantKernel k = Program.booted(0, Program.CALL_WORDS, all);
        k.run(4);
        Check.due("four keys", k.count(5), 4);
        k.run(4);
        Check.due("six keys", k.count(5), 6);
        int[] due = {128, 128, 0, 0};
        for (int p = 0; p < 4; p++) {
            Check.due("key 2 of " + p, k.register(p, 10), due[p]);
        }
        Check.due("NO 9 of 2", k.register(2, 11), 9);
        k.run(4);
        for (int p = 0; p < 4; p++) {
            Check.due("key 1 of " + p, k.register(p, 11), 70 + p);
        }
    }

    private static void goneIsNew() {
        new Script("a key that is gone is new again")
            .ok(2, 3, 2, 1, 5).ok(2, 3, 3, 1, 0).ok(2, 3, 2, 1, 6).count(5, 1)
            .ok1(6, 2, 3, 1, 1, 0)
            .ok(2, 3, 3, 1, 0).no(1, 2, 3, 3, 1, 0).count(5, 0)
            .play();
    }
}
