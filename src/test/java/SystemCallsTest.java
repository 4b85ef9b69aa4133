/** ECALL: its classes, GRANTS, and DRIVERS that are none. */
public final class SystemCallsTest {
    private static final int BLOCK = 4096;

    public static void main(String[] args) {
        otherClasses();
        otherDrivers();
        subscribe();
        allow();
        allowEdges();
        memop();
        memopOfTheSecond();
        exit();
        grants();
        grantsAgainstTheBreak();
        grantBeforeTheNumber();
        countedCalls();
        Check.done();
    }

    private static void otherClasses() {
        new Script("other classes")
            .no(10, 7, 1, 2, 3, 4)
            .no(10, -1, 1, 2, 3, 4)
            .no(10, Integer.MIN_VALUE, 1, 2, 3, 4)
            .no(10, 256, 1, 2, 3, 4)
            .look(10, 4)
            .look(0, GrantKernel.READY)
            .play();
    }

    private static void otherDrivers() {
        new Script("other DRIVERS")
            .no2(11, 1, 4, 0, 5, 6)
            .no(11, 2, 4, 0, 5, 6)
            .no(11, 2, 4, 1, 5, 6)
            .no2(11, 3, 4, 0, 5, 6)
            .no2(11, 4, 4, 0, 5, 6)
            .no2(11, 1, -1, 7, 5, 6)
            .no(11, 2, -1, 1, 5, 6)
            .no2(11, 4, Integer.MIN_VALUE, 0, 0, 0)
            .look(11, 0)
            .look(4, BLOCK + 256)
            .play();
    }

    private static void subscribe() {
        new Script("SUBSCRIBE").need(512)
            .ok2(0, 0, 1, 0, 0, 100, 1)
            .ok2(100, 1, 1, 0, 0, 200, 2)
            .ok2(200, 2, 1, 0, 0, 0, 3)
            .ok2(0, 3, 1, 0, 0, -1, -2)
            .ok2(-1, -2, 1, 0, 0, 1, 1)
            .ok2(0, 0, 1, 0, 1, 8, 9)
            .ok2(8, 9, 1, 0, 1, 8, 9)
            .no2(6, 1, 0, 2, 5, 6)
            .no2(6, 1, 0, -1, 5, 6)
            .ok2(1, 1, 1, 0, 0, 1, 1)
            .ok2(0, 0, 1, 3, 0, 30, 31)
            .ok2(0, 0, 1, 3, 1, 32, 33)
            .ok2(30, 31, 1, 3, 0, 0, 0)
            .ok2(0, 0, 1, 1, 0, 10, 11)
            .ok2(0, 0, 1, 1, 1, 12, 13)
            .ok2(0, 0, 1, 2, 0, 20, 21)
            .ok2(0, 0, 1, 2, 1, 22, 23)
            .ok2(12, 13, 1, 1, 1, 0, 0)
            .ok2(32, 33, 1, 3, 1, 0, 0)
            .ok2(22, 23, 1, 2, 1, 0, 0)
            .play();
    }

    private static void allow() {
        new Script("ALLOW").need(512)
            .ok2(0, 0, 3, 0, 0, BLOCK, 8)
            .ok2(BLOCK, 8, 3, 0, 0, BLOCK + 1, 9)
            .ok2(0, 0, 4, 0, 0, BLOCK + 2, 10)
            .ok2(0, 0, 3, 0, 1, BLOCK + 3, 11)
            .ok2(0, 0, 4, 0, 1, 20, 12)
            .ok2(20, 12, 4, 0, 1, 0, 0)
            .ok2(BLOCK + 3, 11, 3, 0, 1, 0, 0)
            .ok2(BLOCK + 2, 10, 4, 0, 0, 0, 0)
            .ok2(BLOCK + 1, 9, 3, 0, 0, 77, 0)
            .ok2(77, 0, 3, 0, 0, -5, 0)
            .ok2(-5, 0, 3, 0, 0, BLOCK, 1)
            .no2(6, 3, 0, 2, BLOCK, 1)
            .no2(6, 4, 0, -1, BLOCK, 1)
            .no2(6, 4, 0, 2, 0, 0)
            .ok2(0, 0, 4, 2, 1, BLOCK, 1)
            .ok2(0, 0, 4, 2, 0, BLOCK, 2)
            .ok2(0, 0, 3, 2, 1, BLOCK, 3)
            .ok2(0, 0, 3, 3, 1, BLOCK, 4)
            .ok2(0, 0, 4, 3, 1, BLOCK, 5)
            .ok2(BLOCK, 1, 4, 2, 1, 0, 0)
            .ok2(BLOCK, 4, 3, 3, 1, 0, 0)
            .ok2(BLOCK, 1, 3, 0, 0, 0, 0)
            .play();
    }

    private static void allowEdges() {
        int end = 20 + 4 * (2 + 20 * Program.CALL_WORDS);
        new Script("the edges of what is OWN")
            .ok2(0, 0, 3, 0, 0, BLOCK, 128)
            .no2(6, 3, 0, 0, BLOCK, 129)
            .no2(6, 3, 0, 0, BLOCK - 1, 128)
            .no2(6, 3, 0, 0, BLOCK + 128, 1)
            .no2(6, 3, 0, 0, 20, 4)
            .no2(6, 3, 0, 0, BLOCK, -1)
            .no2(6, 3, 0, 0, -1, 1)
            .no2(6, 3, 0, 0, -1, -1)
            .no2(6, 3, 0, 0, BLOCK + 64, Integer.MIN_VALUE)
            .ok2(BLOCK, 128, 3, 0, 0, BLOCK + 127, 1)
            .ok2(0, 0, 4, 0, 0, BLOCK, 128)
            .no2(6, 4, 0, 0, BLOCK, 129)
            .no2(6, 4, 0, 0, 19, 4)
            .ok2(BLOCK, 128, 4, 0, 0, 20, end - 20)
            .no2(6, 4, 0, 0, 20, end - 19)
            .no2(6, 4, 0, 0, end, 1)
            .ok2(20, end - 20, 4, 0, 0, end - 1, 1)
            .no2(6, 4, 0, 0, 20, -1)
            .no2(6, 4, 0, 0, 0, 4)
            .no2(6, 4, 0, 0, 20, BLOCK + 100)
            .play();
    }

    private static void memop() {
        int end = 20 + 4 * (2 + 27 * Program.CALL_WORDS);
        new Script("MEMOP")
            .ok(5, 0, BLOCK, 5, 6).look(3, BLOCK)
            .no(9, 5, 0, BLOCK - 1, 5, 6).look(3, BLOCK)
            .ok(5, 0, BLOCK + 256, 5, 6).look(3, BLOCK + 256)
            .no(9, 5, 0, BLOCK + 257, 5, 6).look(3, BLOCK + 256)
            .no(9, 5, 0, -1, 5, 6)
            .no(9, 5, 0, Integer.MIN_VALUE, 5, 6)
            .ok(5, 0, BLOCK + 3, 5, 6).look(3, BLOCK + 3)
            .ok1(BLOCK + 3, 5, 1, 0, 5, 6).look(3, BLOCK + 3)
            .ok1(BLOCK + 3, 5, 1, -3, 5, 6).look(3, BLOCK)
            .no(9, 5, 1, -1, 5, 6).look(3, BLOCK)
            .ok1(BLOCK, 5, 1, 256, 5, 6).look(3, BLOCK + 256)
            .no(9, 5, 1, 1, 5, 6)
            .no(9, 5, 1, Integer.MAX_VALUE, 5, 6)
            .no(9, 5, 1, Integer.MIN_VALUE, 5, 6)
            .no(9, 2, 3, 1, 5, 6).look(11, 0)
            .ok1(BLOCK + 256, 5, 1, -8, 5, 6)
            .no(1, 2, 3, 1, 5, 6).look(11, 8).look(4, BLOCK + 248)
            .no(9, 5, 1, 1, 5, 6)
            .no(9, 5, 0, BLOCK + 249, 5, 6)
            .ok(5, 0, BLOCK + 248, 5, 6)
            .ok1(0, 5, 2, 1, 5, 6)
            .ok1(end, 5, 3, 1, 5, 6)
            .ok1(BLOCK, 5, 4, 1, 5, 6)
            .ok1(BLOCK + 256, 5, 5, 1, 5, 6)
            .no(10, 5, 6, BLOCK, 5, 6)
            .no(10, 5, -1, BLOCK, 5, 6)
            .no(10, 5, Integer.MIN_VALUE, BLOCK, 5, 6)
            .play();
    }

    private static void memopOfTheSecond() {
        Program second = new Program().need(128);
        for (int a = 2; a <= 5; a++) {
            second.call(5, a, 0, 0, 0);
        }
        GrantKernel k = Program.booted(0, 11, new Program().need(64).call(6, 0, 0, 0, 0), second);
        k.run(1);
        int[] due = {64, 64 + 4 * second.size(), 4160, 4288};
        for (int want : due) {
            k.run(1);
            Check.due("MEMOP of the second", k.register(1, 11), want);
        }
    }

    private static void exit() {
        new Script("EXIT")
            .no(10, 6, 2, 5, 6, 7)
            .no(10, 6, -1, 5, 6, 7)
            .look(0, GrantKernel.READY)
            .call(6, 0, 5, 6, 7)
            .look(0, GrantKernel.STOPPED)
            .look(6, 1)
            .look(7, 0)
            .look(10, 3)
            .then(k -> Check.due("PC went on", k.register(0, 32), 24 + 4 * 3 * Program.CALL_WORDS))
            .then(k -> Check.due("run(9) of a STOPPED one", k.run(9), 0))
            .play();
        GrantKernel k = Program.booted(0, 11, new Program().call(6, 1, 5, 6, 7));
        k.run(1);
        Check.due("EXIT 1: STARTED", k.look(0, 6), 2);
        Check.due("EXIT 1: x10", k.register(0, 10), 0);
        Check.due("EXIT 1: x12", k.register(0, 12), 256);
        Check.due("EXIT 1: x14", k.register(0, 14), 0);
        Check.due("EXIT 1: PC", k.register(0, 32), 20);
        Check.due("EXIT 1: system calls", k.look(0, 10), 1);
    }

    private static void grants() {
        new Script("GRANTS").need(256)
            .ok(2, 0, 0, 0, 0).ok(2, 1, 0, 0, 0).ok1(4, 2, 2, 0, 0, 0).ok(2, 3, 0, 0, 0)
            .look(11, 0).look(4, BLOCK + 256)
            .ok1(0, 2, 0, 1, 0, 0).look(11, 1).look(4, BLOCK + 224)
            .ok1(0, 2, 0, 1, 0, 0).look(11, 1).look(4, BLOCK + 224)
            .ok2(0, 0, 1, 1, 0, 5, 5).look(11, 3).look(4, BLOCK + 176)
            .ok2(0, 0, 3, 1, 0, 0, 0).look(11, 3).look(4, BLOCK + 176)
            .ok2(0, 0, 3, 2, 0, 0, 0).look(11, 7).look(4, BLOCK + 160)
            .ok2(0, 0, 4, 3, 0, 0, 0).look(11, 15).look(4, BLOCK + 152)
            .play();
    }

    /** NEED 64: 32 octets above the BREAK, and just so much is granted. */
    private static void grantsAgainstTheBreak() {
        new Script("GRANTS against the BREAK").need(64)
            .no2(9, 1, 1, 0, 5, 6)
            .no2(9, 3, 1, 0, 5, 6)
            .no2(9, 4, 1, 0, 0, 0)
            .no(9, 2, 1, 1, 5, 6)
            .ok(2, 1, 0, 5, 6)
            .look(11, 0).look(4, BLOCK + 64)
            .ok2(0, 0, 1, 0, 0, 1, 1).look(11, 1).look(4, BLOCK + 32)
            .no(9, 2, 3, 1, 5, 6)
            .ok1(BLOCK + 32, 5, 1, -7, 5, 6)
            .no(9, 2, 3, 1, 5, 6).look(11, 1)
            .ok1(BLOCK + 25, 5, 1, -1, 5, 6)
            .no(1, 2, 3, 1, 5, 6).look(11, 9).look(4, BLOCK + 24)
            .ok1(BLOCK + 24, 5, 1, -24, 5, 6)
            .no2(9, 1, 1, 0, 5, 6)
            .ok1(4, 2, 2, 0, 0, 0)
            .no(6, 2, 2, 1, 9, 0).look(11, 13).look(4, BLOCK + 8)
            .play();
    }

    private static void grantBeforeTheNumber() {
        new Script("the GRANT comes before the number")
            .no2(6, 1, 0, 2, 5, 6).look(11, 1)
            .no(10, 2, 1, 9, 5, 6).look(11, 3)
            .no2(6, 3, 2, 2, 5, 6).look(11, 7)
            .no2(6, 4, 3, 0, 0, 6).look(11, 15)
            .play();
        new Script("and NO 9 before NO2 6").need(64)
            .no2(9, 1, 1, 2, 5, 6)
            .no(9, 2, 1, 9, 5, 6)
            .no2(9, 4, 1, 0, 0, 6)
            .play();
    }

    private static void countedCalls() {
        GrantKernel k = Program.booted(0, 50, new Program().raw(Program.addi(14, 0, 9)).raw(new int[] {
            Program.ECALL, Program.ECALL, Program.ECALL}).loop());
        k.run(1);
        Check.due("system calls", k.look(0, 10), 3);
        Check.due("PC", k.register(0, 32), 36);
    }
}
