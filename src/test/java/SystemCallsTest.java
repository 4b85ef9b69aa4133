/** ECALL: its classes, GRANTS, and DRIVERS that are none. */
public final class SystemCallsTest {
    private static final int BLOCK = 4096;

    public static void main(String[] args) {
        otherClasses();
        otherDrivers();
        subscribe();
        allow();
        allowEdges();
        memop();
        memopOfTheSecond();
        exit();
        grants();
        grantsAgainstTheBreak();
        grantBeforeTheNumber();
        countedCalls();
        numbers();
        allowWraps();
        allowAgainstTheBreak();
        breakEdges();
        grantThatJustFits();
        grantsOfTwo();
        grantAnew();
        othersStay();
        answersIntoTheFour();
        Check.done();
    }

    private static void otherClasses() {
        new Script("other classes")
            .no(10, 7, 1, 2, 3, 4)
            .no(10, -1, 1, 2, 3, 4)
            .no(10, Integer.MIN_VALUE, 1, 2, 3, 4)
            .no(10, 256, 1, 2, 3, 4)
            .look(10, 4)
            .look(0, GrantKernel.READY)
            .play();
    }

    private static void otherDrivers() {
        new Script("other DRIVERS")
            .no2(11, 1, 4, 0, 5, 6)
            .no(11, 2, 4, 0, 5, 6)
            .no(11, 2, 4, 1, 5, 6)
            .no2(11, 3, 4, 0, 5, 6)
            .no2(11, 4, 4, 0, 5, 6)
            .no2(11, 1, -1, 7, 5, 6)
            .no(11, 2, -1, 1, 5, 6)
            .no2(11, 4, Integer.MIN_VALUE, 0, 0, 0)
            .look(11, 0)
            .look(4, BLOCK + 256)
            .play();
    }

    private static void subscribe() {
        new Script("SUBSCRIBE").need(512)
            .ok2(0, 0, 1, 0, 0, 100, 1)
            .ok2(100, 1, 1, 0, 0, 200, 2)
            .ok2(200, 2, 1, 0, 0, 0, 3)
            .ok2(0, 3, 1, 0, 0, -1, -2)
            .ok2(-1, -2, 1, 0, 0, 1, 1)
            .ok2(0, 0, 1, 0, 1, 8, 9)
            .ok2(8, 9, 1, 0, 1, 8, 9)
            .no2(6, 1, 0, 2, 5, 6)
            .no2(6, 1, 0, -1, 5, 6)
            .ok2(1, 1, 1, 0, 0, 1, 1)
            .ok2(0, 0, 1, 3, 0, 30, 31)
            .ok2(0, 0, 1, 3, 1, 32, 33)
            .ok2(30, 31, 1, 3, 0, 0, 0)
            .ok2(0, 0, 1, 1, 0, 10, 11)
            .ok2(0, 0, 1, 1, 1, 12, 13)
            .ok2(0, 0, 1, 2, 0, 20, 21)
            .ok2(0, 0, 1, 2, 1, 22, 23)
            .ok2(12, 13, 1, 1, 1, 0, 0)
            .ok2(32, 33, 1, 3, 1, 0, 0)
            .ok2(22, 23, 1, 2, 1, 0, 0)
            .play();
    }

    private static void allow() {
        new Script("ALLOW").need(512)
            .ok2(0, 0, 3, 0, 0, BLOCK, 8)
            .ok2(BLOCK, 8, 3, 0, 0, BLOCK + 1, 9)
            .ok2(0, 0, 4, 0, 0, BLOCK + 2, 10)
            .ok2(0, 0, 3, 0, 1, BLOCK + 3, 11)
            .ok2(0, 0, 4, 0, 1, 20, 12)
            .ok2(20, 12, 4, 0, 1, 0, 0)
            .ok2(BLOCK + 3, 11, 3, 0, 1, 0, 0)
            .ok2(BLOCK + 2, 10, 4, 0, 0, 0, 0)
            .ok2(BLOCK + 1, 9, 3, 0, 0, 77, 0)
            .ok2(77, 0, 3, 0, 0, -5, 0)
            .ok2(-5, 0, 3, 0, 0, BLOCK, 1)
            .no2(6, 3, 0, 2, BLOCK, 1)
            .no2(6, 4, 0, -1, BLOCK, 1)
            .no2(6, 4, 0, 2, 0, 0)
            .ok2(0, 0, 4, 2, 1, BLOCK, 1)
            .ok2(0, 0, 4, 2, 0, BLOCK, 2)
            .ok2(0, 0, 3, 2, 1, BLOCK, 3)
            .ok2(0, 0, 3, 3, 1, BLOCK, 4)
            .ok2(0, 0, 4, 3, 1, BLOCK, 5)
            .ok2(BLOCK, 1, 4, 2, 1, 0, 0)
            .ok2(BLOCK, 4, 3, 3, 1, 0, 0)
            .ok2(BLOCK, 1, 3, 0, 0, 0, 0)
            .play();
    }

    private static void allowEdges() {
        int end = 20 + 4 * (2 + 20 * Program.CALL_WORDS);
        new Script("the edges of what is OWN")
            .ok2(0, 0, 3, 0, 0, BLOCK, 128)
            .no2(6, 3, 0, 0, BLOCK, 129)
            .no2(6, 3, 0, 0, BLOCK - 1, 128)
            .no2(6, 3, 0, 0, BLOCK + 128, 1)
            .no2(6, 3, 0, 0, 20, 4)
            .no2(6, 3, 0, 0, BLOCK, -1)
            .no2(6, 3, 0, 0, -1, 1)
            .no2(6, 3, 0, 0, -1, -1)
            .no2(6, 3, 0, 0, BLOCK + 64, Integer.MIN_VALUE)
            .ok2(BLOCK, 128, 3, 0, 0, BLOCK + 127, 1)
            .ok2(0, 0, 4, 0, 0, BLOCK, 128)
            .no2(6, 4, 0, 0, BLOCK, 129)
            .no2(6, 4, 0, 0, 19, 4)
            .ok2(BLOCK, 128, 4, 0, 0, 20, end - 20)
            .no2(6, 4, 0, 0, 20, end - 19)
            .no2(6, 4, 0, 0, end, 1)
            .ok2(20, end - 20, 4, 0, 0, end - 1, 1)
            .no2(6, 4, 0, 0, 20, -1)
            .no2(6, 4, 0, 0, 0, 4)
            .no2(6, 4, 0, 0, 20, BLOCK + 100)
            .play();
    }

    private static void memop() {
        int end = 20 + 4 * (2 + 27 * Program.CALL_WORDS);
        new Script("MEMOP")
            .ok(5, 0, BLOCK, 5, 6).look(3, BLOCK)
            .no(9, 5, 0, BLOCK - 1, 5, 6).look(3, BLOCK)
            .ok(5, 0, BLOCK + 256, 5, 6).look(3, BLOCK + 256)
            .no(9, 5, 0, BLOCK + 257, 5, 6).look(3, BLOCK + 256)
            .no(9, 5, 0, -1, 5, 6)
            .no(9, 5, 0, Integer.MIN_VALUE, 5, 6)
            .ok(5, 0, BLOCK + 3, 5, 6).look(3, BLOCK + 3)
            .ok1(BLOCK + 3, 5, 1, 0, 5, 6).look(3, BLOCK + 3)
            .ok1(BLOCK + 3, 5, 1, -3, 5, 6).look(3, BLOCK)
            .no(9, 5, 1, -1, 5, 6).look(3, BLOCK)
            .ok1(BLOCK, 5, 1, 256, 5, 6).look(3, BLOCK + 256)
            .no(9, 5, 1, 1, 5, 6)
            .no(9, 5, 1, Integer.MAX_VALUE, 5, 6)
            .no(9, 5, 1, Integer.MIN_VALUE, 5, 6)
            .no(9, 2, 3, 1, 5, 6).look(11, 0)
            .ok1(BLOCK + 256, 5, 1, -8, 5, 6)
            .no(1, 2, 3, 1, 5, 6).look(11, 8).look(4, BLOCK + 248)
            .no(9, 5, 1, 1, 5, 6)
            .no(9, 5, 0, BLOCK + 249, 5, 6)
            .ok(5, 0, BLOCK + 248, 5, 6)
            .ok1(0, 5, 2, 1, 5, 6)
            .ok1(end, 5, 3, 1, 5, 6)
            .ok1(BLOCK, 5, 4, 1, 5, 6)
            .ok1(BLOCK + 256, 5, 5, 1, 5, 6)
            .no(10, 5, 6, BLOCK, 5, 6)
            .no(10, 5, -1, BLOCK, 5, 6)
            .no(10, 5, Integer.MIN_VALUE, BLOCK, 5, 6)
            .play();
    }

    private static void memopOfTheSecond() {
        Program second = new Program().need(128);
        for (int a = 2; a <= 5; a++) {
            second.call(5, a, 0, 0, 0);
        }
        GrantKernel k = Program.booted(0, 11, new Program().need(64).call(6, 0, 0, 0, 0), second);
        k.run(1);
        int[] due = {64, 64 + 4 * second.size(), 4160, 4288};
        for (int want : due) {
            k.run(1);
            Check.due("MEMOP of the second", k.register(1, 11), want);
        }
    }

    private static void exit() {
        new Script("EXIT")
            .no(10, 6, 2, 5, 6, 7)
            .no(10, 6, -1, 5, 6, 7)
            .look(0, GrantKernel.READY)
            .call(6, 0, 5, 6, 7)
            .look(0, GrantKernel.STOPPED)
            .look(6, 1)
            .look(7, 0)
            .look(10, 3)
            .then(k -> Check.due("PC went on", k.register(0, 32), 24 + 4 * 3 * Program.CALL_WORDS))
            .then(k -> Check.due("run(9) of a STOPPED one", k.run(9), 0))
            .play();
        GrantKernel k = Program.booted(0, 11, new Program().call(6, 1, 5, 6, 7));
        k.run(1);
        Check.due("EXIT 1: STARTED", k.look(0, 6), 2);
        Check.due("EXIT 1: x10", k.register(0, 10), 0);
        Check.due("EXIT 1: x12", k.register(0, 12), 256);
        Check.due("EXIT 1: x14", k.register(0, 14), 0);
        Check.due("EXIT 1: PC", k.register(0, 32), 20);
        Check.due("EXIT 1: system calls", k.look(0, 10), 1);
    }

    private static void grants() {
        new Script("GRANTS").need(256)
            .ok(2, 0, 0, 0, 0).ok(2, 1, 0, 0, 0).ok1(4, 2, 2, 0, 0, 0).ok(2, 3, 0, 0, 0)
            .look(11, 0).look(4, BLOCK + 256)
            .ok1(0, 2, 0, 1, 0, 0).look(11, 1).look(4, BLOCK + 224)
            .ok1(0, 2, 0, 1, 0, 0).look(11, 1).look(4, BLOCK + 224)
            .ok2(0, 0, 1, 1, 0, 5, 5).look(11, 3).look(4, BLOCK + 176)
            .ok2(0, 0, 3, 1, 0, 0, 0).look(11, 3).look(4, BLOCK + 176)
            .ok2(0, 0, 3, 2, 0, 0, 0).look(11, 7).look(4, BLOCK + 160)
            .ok2(0, 0, 4, 3, 0, 0, 0).look(11, 15).look(4, BLOCK + 152)
            .play();
    }

    /** NEED 64: 32 octets above the BREAK, and just so much is granted. */
    private static void grantsAgainstTheBreak() {
        new Script("GRANTS against the BREAK").need(64)
            .no2(9, 1, 1, 0, 5, 6)
            .no2(9, 3, 1, 0, 5, 6)
            .no2(9, 4, 1, 0, 0, 0)
            .no(9, 2, 1, 1, 5, 6)
            .ok(2, 1, 0, 5, 6)
            .look(11, 0).look(4, BLOCK + 64)
            .ok2(0, 0, 1, 0, 0, 1, 1).look(11, 1).look(4, BLOCK + 32)
            .no(9, 2, 3, 1, 5, 6)
            .ok1(BLOCK + 32, 5, 1, -7, 5, 6)
            .no(9, 2, 3, 1, 5, 6).look(11, 1)
            .ok1(BLOCK + 25, 5, 1, -1, 5, 6)
            .no(1, 2, 3, 1, 5, 6).look(11, 9).look(4, BLOCK + 24)
            .ok1(BLOCK + 24, 5, 1, -24, 5, 6)
            .no2(9, 1, 1, 0, 5, 6)
            .ok1(4, 2, 2, 0, 0, 0)
            .no(6, 2, 2, 1, 9, 0).look(11, 13).look(4, BLOCK + 8)
            .play();
    }

    private static void grantBeforeTheNumber() {
        new Script("the GRANT comes before the number")
            .no2(6, 1, 0, 2, 5, 6).look(11, 1)
            .no(10, 2, 1, 9, 5, 6).look(11, 3)
            .no2(6, 3, 2, 2, 5, 6).look(11, 7)
            .no2(6, 4, 3, 0, 0, 6).look(11, 15)
            .play();
        new Script("and NO 9 before NO2 6").need(64)
            .no2(9, 1, 1, 2, 5, 6)
            .no(9, 2, 1, 9, 5, 6)
            .no2(9, 4, 1, 0, 0, 6)
            .play();
    }

    private static void countedCalls() {
        GrantKernel k = Program.booted(0, 50, new Program().raw(Program.addi(14, 0, 9)).raw(new int[] {
            Program.ECALL, Program.ECALL, Program.ECALL}).loop());
        k.run(1);
        Check.due("system calls", k.look(0, 10), 3);
        Check.due("PC", k.register(0, 32), 36);
    }

    /** SUBSCRIBE, ALLOW: number 0 or 1, else NO2 6 c d, and what was there stays. */
    private static void numbers() {
        int[] wrong = {-1, 2, 3, Integer.MIN_VALUE, Integer.MAX_VALUE};
        int[] classes = {1, 3, 4};
        for (int callClass : classes) {
            for (int driver = 0; driver < 4; driver++) {
                Script s = new Script("numbers of class " + callClass + ", driver " + driver)
                    .ok2(0, 0, callClass, driver, 0, BLOCK, 1)
                    .ok2(0, 0, callClass, driver, 1, BLOCK + 1, 2);
                for (int b : wrong) {
                    s.no2(6, callClass, driver, b, BLOCK + 2, 3);
                }
                s.ok2(BLOCK, 1, callClass, driver, 0, 0, 0)
                    .ok2(BLOCK + 1, 2, callClass, driver, 1, 0, 0)
                    .play();
            }
        }
    }

    /** ALLOW: an end that wraps round makes nothing OWN; and what is refused leaves what was there. */
    private static void allowWraps() {
        for (int callClass = 3; callClass <= 4; callClass++) {
            new Script("ALLOW that wraps, class " + callClass)
                .ok2(0, 0, callClass, 0, 0, BLOCK + 5, 6)
                .no2(6, callClass, 0, 0, BLOCK + 64, -63)
                .no2(6, callClass, 0, 0, BLOCK + 64, -64)
                .no2(6, callClass, 0, 0, BLOCK + 127, -1)
                .no2(6, callClass, 0, 0, 40, -20)
                .no2(6, callClass, 0, 0, -4, 28)
                .no2(6, callClass, 0, 0, -1, 2)
                .no2(6, callClass, 0, 0, Integer.MIN_VALUE, Integer.MIN_VALUE)
                .no2(6, callClass, 0, 0, Integer.MIN_VALUE + BLOCK, 1)
                .no2(6, callClass, 0, 0, Integer.MAX_VALUE, 1)
                .no2(6, callClass, 0, 0, BLOCK, Integer.MAX_VALUE)
                .no2(6, callClass, 0, 0, 8191, 1)
                .no2(6, callClass, 0, 0, 8192, 1)
                .no2(6, callClass, 0, 0, 2048, 1)
                .ok2(BLOCK + 5, 6, callClass, 0, 0, -1, 0)
                .ok2(-1, 0, callClass, 0, 0, Integer.MIN_VALUE, 0)
                .ok2(Integer.MIN_VALUE, 0, callClass, 0, 0, 0, 0)
                .play();
        }
    }

    /** ALLOW: OWN is up to the BREAK as it is then; what is above it, granted or not, is not. */
    private static void allowAgainstTheBreak() {
        for (int callClass = 3; callClass <= 4; callClass++) {
            new Script("ALLOW against the BREAK, class " + callClass).need(64)
                .ok2(0, 0, callClass, 3, 0, BLOCK, 32)
                .no2(6, callClass, 3, 0, BLOCK, 33)
                .ok(5, 0, BLOCK + 56, 0, 0)
                .ok2(BLOCK, 32, callClass, 3, 0, BLOCK, 56)
                .no2(6, callClass, 3, 0, BLOCK, 57)
                .no2(6, callClass, 3, 0, BLOCK + 56, 1)
                .no2(6, callClass, 3, 0, BLOCK + 63, 1)
                .ok2(BLOCK, 56, callClass, 3, 0, BLOCK + 55, 1)
                .ok(5, 0, BLOCK + 1, 0, 0)
                .ok2(BLOCK + 55, 1, callClass, 3, 0, BLOCK, 1)
                .no2(6, callClass, 3, 0, BLOCK, 2)
                .ok(5, 0, BLOCK, 0, 0)
                .no2(6, callClass, 3, 0, BLOCK, 1)
                .ok2(BLOCK, 1, callClass, 3, 0, BLOCK, 0)
                .play();
        }
    }

    /** MEMOP 0, 1: from the BLOCK's beginning to LOW, of a BLOCK that is not the first. */
    private static void breakEdges() {
        int block = 4096 + 2048;
        int[][] asks = {
            {0, block}, {0, block - 1}, {0, block + 128}, {0, block + 129}, {1, 0}, {1, 1}, {1, -128}, {1, -1},
            {1, 128}, {1, -129}, {1, Integer.MIN_VALUE}, {1, Integer.MAX_VALUE}, {0, 0}, {0, Integer.MIN_VALUE + block},
            {0, 4096}, {0, 8192}, {1, -64}, {1, -block}};
        int[] due = {block, -1, block + 128, -1, block + 128, -1, block, -1, block + 128, -1, -1, -1, -1, -1, -1, -1,
            block + 64, -1};
        Program second = new Program().need(128);
        for (int[] ask : asks) {
            second.call(5, ask[0], ask[1], 0, 0);
        }
        Program first = new Program().need(2048).call(6, 0, 0, 0, 0);
        GrantKernel k = Program.booted(0, Program.CALL_WORDS, first, second, new Program().need(64).raw(0));
        k.run(3);
        int before = block + 64;
        for (int i = 0; i < asks.length; i++) {
            if (i > 0) {
                k.run(1);
            }
            String name = "MEMOP " + asks[i][0] + " " + asks[i][1];
            boolean done = due[i] >= 0;
            Check.due(name + ": x10", k.register(1, 10), !done ? 0 : asks[i][0] == 0 ? 128 : 129);
            Check.due(name + ": x11", k.register(1, 11), !done ? 9 : asks[i][0] == 0 ? asks[i][1] : before);
            before = done ? due[i] : before;
            Check.due(name + ": BREAK", k.look(1, 3), before);
            Check.due(name + ": LOW", k.look(1, 4), block + 128);
        }
    }

    /** GRANTS of 32, 48, 16, 8 octets: NO 9 if LOW would be one below the BREAK, by each way to need one. */
    private static void grantThatJustFits() {
        int[] octets = {32, 48, 16, 8};
        for (int driver = 0; driver < 4; driver++) {
            for (int callClass = 1; callClass <= 4; callClass++) {
                int end = BLOCK + 256;
                String name = "GRANT of DRIVER " + driver + " by class " + callClass;
                Script s = new Script(name).ok(5, 0, end - octets[driver] + 1, 0, 0);
                if (callClass == 2) {
                    s.no(9, 2, driver, 99, 5, 6);
                } else {
                    s.no2(9, callClass, driver, 0, 0, 0);
                }
                s.look(4, end).look(11, 0).ok1(end - octets[driver] + 1, 5, 1, -1, 0, 0);
                if (callClass == 2) {
                    s.no(10, 2, driver, 99, 5, 6);
                } else {
                    s.ok2(0, 0, callClass, driver, 0, 0, 0);
                }
                s.look(4, end - octets[driver]).look(3, end - octets[driver]).look(11, 1 << driver)
                    .no(9, 5, 1, 1, 0, 0).play();
            }
        }
    }

    private static void grantsOfTwo() {
        Program first = new Program().need(128).call(2, 0, 1, 0, 0).loop();
        Program second = new Program().need(128).call(2, 2, 3, 0, 0).loop();
        GrantKernel k = Program.booted(0, Program.CALL_WORDS, first, second);
        k.run(2);
        Check.due("GRANTS of 0", k.look(0, 11), 1);
        Check.due("LOW of 0", k.look(0, 4), 4096 + 128 - 32);
        Check.due("GRANTS of 1", k.look(1, 11), 4);
        Check.due("LOW of 1", k.look(1, 4), 4096 + 256 - 16);
    }

    /** 'for the first time since the PROCESS STARTED'. */
    private static void grantAnew() {
        Program p = new Program().need(64).call(2, 0, 1, 0, 0).call(2, 0, 1, 0, 0).call(6, 1, 0, 0, 0);
        GrantKernel k = Program.booted(0, Program.CALL_WORDS, p);
        for (int start = 1; start <= 3; start++) {
            k.run(1);
            Check.due("LOW, start " + start, k.look(0, 4), 4096 + 32);
            k.run(1);
            Check.due("LOW, the second time", k.look(0, 4), 4096 + 32);
            k.run(1);
            Check.due("LOW, STARTED again", k.look(0, 4), 4096 + 64);
            Check.due("STARTED", k.look(0, 6), start + 1);
        }
    }

    /** ECALL: the answer goes to x10 to x13; others stay. */
    private static void othersStay() {
        int[][] calls = {{0, 0, 0, 0, 0}, {1, 0, 0, 5, 5}, {1, 9, 0, 5, 5}, {2, 0, 1, 5, 5}, {2, 0, 2, 5, 5},
            {2, 3, 1, 5, 5}, {3, 1, 0, 4096, 8}, {4, 1, 5, 4096, 8}, {5, 0, 4096, 0, 0}, {5, 1, 9, 0, 0},
            {6, 2, 0, 0, 0}, {7, 0, 0, 0, 0}, {0, 1, 0, 0, 0}, {6, 0, 0, 0, 0}};
        for (int[] c : calls) {
            Program p = new Program();
            for (int r = 1; r < 32; r++) {
                p.raw(Program.addi(r, 0, 100 + r));
            }
            p.call(c[0], c[1], c[2], c[3], c[4]).loop();
            GrantKernel k = Program.booted(0, 42, p);
            k.run(1);
            String name = "class " + c[0] + " " + c[1] + ": ";
            Check.due(name + "x0", k.register(0, 0), 0);
            for (int r = 1; r < 32; r++) {
                if (r < 10 || r > 14) {
                    Check.due(name + "x" + r, k.register(0, r), 100 + r);
                }
            }
            Check.due(name + "x14", k.register(0, 14), c[0]);
            Check.due(name + "PC goes on", k.register(0, 32), 20 + 4 * 42);
        }
    }

    /** OK 128; OK1 v 129, v; OK2 v w 130, v, w; NO e 0, e; NO2 e v w 2, e, v, w; with numbers of all bits. */
    private static void answersIntoTheFour() {
        new Script("answers")
            .call(2, 3, 0, -3, -4, 128)
            .call(2, 3, 2, -3, -4, 128)
            .call(2, 3, 1, -3, -5, 129, -4)
            .call(1, 3, 0, -6, -7, 130, 0, 0)
            .call(1, 3, 0, -8, -9, 130, -6, -7)
            .call(2, 3, 3, -6, -7, 0, 1)
            .call(3, 3, 1, -6, -7, 2, 6, -6, -7)
            .call(4, -3, 1, -6, -7, 2, 11, -6, -7)
            .play();
    }
}
