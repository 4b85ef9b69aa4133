/** Runs of 512 calls, the most that an object is used for: nothing runs over, is used up or forgotten on the way. */
public final class LongRunTest {
    private static final int MOST_CALLS = 512;

    public static void main(String[] args) {
        mostInstructions();
        mostTicks();
        alarmBehindAlarm();
        mostLost();
        mostStarts();
        mostOctets();
        keysComeAndGo();
        bootsAndHalts();
        Check.done();
    }

    /** Calls that Program.booted makes: one for each WORD, ways and boot. */
    private static int callsOf(Program p) {
        return p.size() + 2;
    }

    private static void mostInstructions() {
        Program p = new Program().raw(Program.addi(5, 5, 1), Program.jal(0, -4));
        GrantKernel k = Program.booted(0, 50, p);
        int calls = callsOf(p);
        int runs = 0;
        while (calls + 3 < MOST_CALLS) {
            Check.due("run(60), the " + runs + "th", k.run(60), 3000);
            runs++;
            calls++;
        }
        Check.due("count(1)", k.count(1), 3000 * runs);
        Check.due("x5", k.register(0, 5), 1500 * runs);
        Check.due("count(6)", k.count(6), 0);
    }

    /** An alarm in 20,000 TICKS, while the TICKS go on by 60. */
    private static void mostTicks() {
        Program p = new Program().raw(Program.jalr(0, 1, 0)).entryHere()
            .ask(1, 0, 0, 20, 5).ask(2, 0, 2, 20000, 0).ask(0, 1, 0, 0, 0);
        GrantKernel k = Program.booted(0, 50, p);
        k.run(1);
        for (int i = 1; i <= 333; i++) {
            Check.due("tick(60), the " + i + "th", k.tick(60), 60 * i);
        }
        Check.due("tick(19)", k.tick(19), 19999);
        Check.due("YIELDED up to TICK 19999", k.look(0, 0), GrantKernel.YIELDED);
        k.tick(1);
        Check.due("READY at TICK 20000", k.look(0, 0), GrantKernel.READY);
        Check.due("x10", k.register(0, 10), 20000);
        Check.due("x11", k.register(0, 11), 20000);
        int calls = callsOf(p) + 1 + 333 + 2 + 4;
        int ticks = 20000;
        while (calls + 3 < MOST_CALLS) {
            ticks += 60;
            Check.due("tick(60)", k.tick(60), ticks);
            calls++;
        }
        Check.due("count(2)", k.count(2), ticks);
        Check.due("queued", k.look(0, 5), 0);
        Check.due("DONE", k.look(0, 9), 1);
    }

    /** Each UPCALL sets the next alarm: one for each TICK. */
    private static void alarmBehindAlarm() {
        Program p = new Program().raw(Program.addi(6, 6, 1), Program.jalr(0, 1, 0)).entryHere()
            .ask(1, 0, 0, 20, 5).ask(2, 0, 2, 1, 0).ask(0, 1, 0, 0, 0).raw(Program.jal(0, -48));
        GrantKernel k = Program.booted(0, 50, p);
        Check.due("run(1)", k.run(1), 18);
        int calls = callsOf(p) + 1;
        int rounds = 0;
        while (calls + 2 + 5 <= MOST_CALLS) {
            rounds++;
            Check.due("tick(1)", k.tick(1), rounds);
            Check.due("run(60) in round " + rounds, k.run(60), 2 + 1 + 12);
            calls += 2;
        }
        Check.due("DONE", k.look(0, 9), rounds);
        Check.due("x6", k.register(0, 6), rounds);
        Check.due("system calls", k.look(0, 10), 3 + 2 * rounds);
        Check.due("lost", k.look(0, 8), 0);
        Check.due("YIELDED", k.look(0, 0), GrantKernel.YIELDED);
    }

    private static void mostLost() {
        Program p = new Program().raw(Program.jalr(0, 1, 0)).entryHere().ask(1, 2, 0, 20, 5).ask(2, 2, 1, 0, 0).loop();
        GrantKernel k = Program.booted(0, 50, p);
        k.run(1);
        int calls = callsOf(p) + 1;
        int presses = 0;
        while (calls + 3 < MOST_CALLS) {
            Check.due("press", k.press(0, presses % 2 == 0), true);
            presses++;
            calls++;
        }
        Check.due("queued", k.look(0, 5), 4);
        Check.due("lost", k.look(0, 8), presses - 4);
        Check.due("DONE", k.look(0, 9), 0);
    }

    /** EXIT 1 in every turn; key 7 is kept over all STARTS, and its GRANT is needed anew each time. */
    private static void mostStarts() {
        Program p = new Program().ask(2, 3, 2, 7, 7).ask(6, 1, 0, 0, 0);
        GrantKernel k = Program.booted(0, 50, p);
        int calls = callsOf(p);
        int runs = 0;
        while (calls + 6 < MOST_CALLS) {
            Check.due("run(60)", k.run(60), 60 * 12);
            runs++;
            calls++;
        }
        Check.due("STARTED", k.look(0, 6), 1 + 60 * runs);
        Check.due("FAULTS", k.look(0, 7), 0);
        Check.due("system calls", k.look(0, 10), 120 * runs);
        Check.due("GRANTS", k.look(0, 11), 0);
        Check.due("LOW", k.look(0, 4), 4096 + 256);
        Check.due("keys", k.count(5), 1);
    }

    /** 2000 octets, all that the BLOCK can have below LOW: by 60 and one by one. */
    private static void mostOctets() {
        Program p = new Program().need(2048).raw(Program.jalr(0, 1, 0)).entryHere()
            .ask(1, 1, 1, 20, 5).ask(5, 0, 4096 + 2000, 0, 0).ask(4, 1, 1, 4096, 2000).ask(2, 1, 1, -1, 0);
        // the 1999th octet is 99, the last one 77, the others 0
        p.li(5, 4096 + 1999).raw(Program.addi(6, 0, 77), Program.sb(5, 6, 0), Program.addi(6, 0, 99),
            Program.sb(5, 6, -1)).ask(0, 1, 0, 0, 0);
        GrantKernel k = Program.booted(0, 50, p);
        k.run(1);
        Check.due("YIELDED", k.look(0, 0), GrantKernel.YIELDED);
        for (int i = 1; i <= 33; i++) {
            k.tick(60);
            Check.due("octets behind tick(60)", k.count(3), 60 * i);
        }
        for (int i = 1981; i <= 2000; i++) {
            Check.due("row before octet " + i, k.count(4), 1);
            k.tick(1);
            Check.due("octet " + i, k.console(0), i == 1999 ? 99 : i == 2000 ? 77 : 0);
        }
        Check.due("row", k.count(4), 0);
        Check.due("x10", k.register(0, 10), 2000);
        Check.due("x13", k.register(0, 13), 5);
        Check.due("console(1)", k.console(1), 99);
        k.tick(60);
        Check.due("count(3)", k.count(3), 2000);
        Check.due("console(0)", k.console(0), 77);
        Check.due("console(31)", k.console(31), 0);
        Check.thrown("console(32)", IndexOutOfBoundsException.class, () -> k.console(32));
    }

    /** Six keys come and go again and again; each time they are the six of this round. */
    private static void keysComeAndGo() {
        Program p = new Program().need(64);
        int again = p.here();
        // x20 counts the keys up to 6; the seventh is refused and has all of them taken away
        p.raw(Program.addi(10, 0, 3), Program.addi(11, 0, 2), Program.addi(12, 20, 0), Program.addi(13, 20, 0),
            Program.addi(14, 0, 2), Program.ECALL, Program.typeB(0, 10, 0, 12), Program.addi(20, 20, 1));
        p.raw(Program.jal(0, again - p.here()));
        int away = p.here();
        p.raw(Program.addi(20, 20, -1), Program.addi(10, 0, 3), Program.addi(11, 0, 3), Program.addi(12, 20, 0),
            Program.ECALL);
        p.raw(Program.typeB(1, 20, 0, away - p.here()));
        p.raw(Program.jal(0, again - p.here()));
        GrantKernel k = Program.booted(0, 9, p);
        int calls = callsOf(p);
        while (calls + 25 < MOST_CALLS) {
            for (int keys = 1; keys <= 6; keys++) {
                k.ways(0, 9);
                k.run(1);
                Check.due("keys come", k.count(5), keys);
            }
            k.ways(0, 7);
            k.run(1);
            Check.due("NO", k.register(0, 10), 0);
            Check.due("9", k.register(0, 11), 9);
            k.ways(0, 6 * 6 + 1);
            Check.due("run(1)", k.run(1), 37);
            Check.due("keys are gone", k.count(5), 0);
            calls += 6 * 3 + 7;
        }
    }

    /** BOOT and halt as often as can be: each time one and the same machine. */
    private static void bootsAndHalts() {
        Program p = new Program().ask(2, 3, 2, 7, 7).ask(2, 0, 1, 0, 0).loop();
        GrantKernel k = Program.booted(0, 12, p);
        int calls = callsOf(p);
        int rounds = 0;
        while (calls + 7 <= MOST_CALLS) {
            Check.due("run(1)", k.run(1), 12);
            Check.due("keys", k.count(5), 1);
            Check.due("TICKS that it was told", k.register(0, 11), 0);
            Check.due("tick(60)", k.tick(60), 60);
            if (rounds % 2 == 0) {
                Check.due("halt()", k.halt(), 1);
            } else {
                Check.due("press(0, true)", k.press(0, true), true);
            }
            Check.due("boot()", k.boot(), 1);
            Check.due("keys behind boot()", k.count(5), 0);
            calls += 7;
            rounds++;
        }
    }
}
