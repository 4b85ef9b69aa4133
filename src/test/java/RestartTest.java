/**
 * A PROCESS that STARTS again, by a FAULT below the POLICY or by EXIT 1, with UPCALLS queued, an alarm set, octets
 * still to be written, BUTTONS wanted and keys in the STORE.
 */
public final class RestartTest {
    private static final int HANDLER = Program.HEADER_OCTETS;
    private static final int BLOCK = 4096;
    private static final int NEED = 256;
    private static final int MIDDLE = BLOCK + NEED / 2;
    /** System calls of one life of busy() but for the one that ends it. */
    private static final int CALLS = 17;

    public static void main(String[] args) {
        for (int lives = 2; lives <= 3; lives++) {
            startsAgain(true, lives);
            startsAgain(false, lives);
        }
        blockIsAllZero(true);
        blockIsAllZero(false);
        policyUsedUp();
        policyAndExits();
        othersKeepTheirs(true);
        othersKeepTheirs(false);
        backBehindTheOthers();
        Check.done();
    }

    private static Program busy(boolean byFault) {
        Program p = new Program().need(NEED).raw(Program.jalr(0, 1, 0)).entryHere();
        p.ask(2, 0, 3, 0, 0).ask(2, 3, 1, 7, 0).ask(2, 2, 3, 1, 0);
        p.ask(1, 0, 0, HANDLER, 11).ask(1, 1, 1, HANDLER, 12).ask(1, 2, 0, HANDLER, 13).ask(1, 3, 1, HANDLER, 14);
        p.ask(3, 1, 0, BLOCK, 8).ask(4, 1, 1, HANDLER, 6);
        p.ask(2, 3, 2, 7, 70).ask(2, 3, 2, 8, 80);
        p.ask(2, 2, 1, 1, 0).ask(2, 2, 1, 3, 0).ask(2, 0, 2, 9, 0).ask(2, 1, 1, 6, 0);
        p.ask(5, 1, 16, 0, 0).raw(Program.sw(2, 2, -4), Program.sw(2, 2, 8)).ask(0, 0, 0, 0, 0);
        return byFault ? p.raw(0) : p.ask(6, 1, 0, 0, 0);
    }

    /** One life of busy() up to its YIELD, each call with the answer that is due then. */
    private static void live(GrantKernel k, int life, int ticks) {
        String name = "life " + life + " ";
        boolean first = life == 1;
        asked(k, name + "no alarm is set", 0, 3);
        asked(k, name + "the STORE is kept", first ? 0 : 129, first ? 1 : 70);
        asked(k, name + "the BUTTON is as it is", 129, 0);
        for (int i = 0; i < 4; i++) {
            asked(k, name + "nothing is subscribed, " + i, 130, 0, 0);
        }
        k.ways(9, 7);
        asked(k, name + "nothing is ALLOWED to be written", 130, 0, 0);
        k.ways(9, 6);
        asked(k, name + "nothing is ALLOWED to be read", 130, 0, 0);
        asked(k, name + "key 7", 128);
        asked(k, name + "key 8", 128);
        asked(k, name + "BUTTON 1", 128);
        asked(k, name + "BUTTON 3", 128);
        asked(k, name + "alarm", 129, ticks + 9);
        asked(k, name + "it does not write yet", 128);
        Check.due(name + "keys", k.count(5), 2);
        Check.due(name + "row", k.count(4), 1);
        k.tick(2);
        k.press(1, true);
        asked(k, name + "BREAK", 129, MIDDLE);
        k.ways(9, 8);
        asked(k, name + "UPCALL", 1, 1, 0, 13);
    }

    private static void asked(GrantKernel k, String name, int... due) {
        k.run(1);
        for (int i = 0; i < due.length; i++) {
            Check.due(name + ": x" + (10 + i), k.register(0, 10 + i), due[i]);
        }
    }

    /** Four of BUTTON 1 are queued, one of it and one of BUTTON 3 lost; then both BUTTONS are let go as at first. */
    private static void fillTheQueue(GrantKernel k) {
        for (int i = 0; i < 5; i++) {
            k.press(1, i % 2 != 0);
        }
        k.press(3, true);
    }

    private static void startsAgain(boolean byFault, int lives) {
        GrantKernel k = Program.booted(9, 6, busy(byFault));
        for (int life = 1; life <= lives - 1; life++) {
            String name = (byFault ? "FAULT" : "EXIT 1") + " of life " + life + ": ";
            int ticks = k.count(2);
            live(k, life, ticks);
            fillTheQueue(k);
            Check.due(name + "queued before", k.look(0, 5), 4);
            Check.due(name + "GRANTS before", k.look(0, 11), 15);
            Check.due(name + "LOW before", k.look(0, 4), BLOCK + NEED - 104);
            Check.due(name + "BREAK before", k.look(0, 3), MIDDLE + 16);
            k.ways(9, 50);
            Check.due(name + "run(1) ends with it", k.run(1), byFault ? 2 : 7);
            asAtFirst(k, name);
            int calls = life * (byFault ? CALLS : CALLS + 1);
            int[] due = {GrantKernel.READY, 0, BLOCK, MIDDLE, BLOCK + NEED, 0, life + 1, byFault ? life : 0, 2 * life,
                life, calls, 0};
            for (int what = 0; what < due.length; what++) {
                Check.due(name + "look(0, " + what + ")", k.look(0, what), due[what]);
            }
            nothingIsHeld(k, name, life);
            k.ways(9, 6);
        }
        if (lives == 2) {
            live(k, lives, k.count(2));
        }
    }

    private static void asAtFirst(GrantKernel k, String name) {
        int[] due = new int[33];
        due[2] = MIDDLE;
        due[11] = BLOCK;
        due[12] = NEED;
        due[13] = MIDDLE;
        due[32] = HANDLER + 4;
        for (int r = 0; r <= 32; r++) {
            Check.due(name + "register(0, " + r + ")", k.register(0, r), due[r]);
        }
        Check.due(name + "the BLOCK below the first BREAK", k.word(MIDDLE - 4), 0);
        Check.due(name + "the BLOCK above the first BREAK", k.word(MIDDLE + 8), 0);
    }

    /** No alarm, no octet and no BUTTON comes any more; what was written and the keys are still there. */
    private static void nothingIsHeld(GrantKernel k, String name, int life) {
        int ticks = 2 + 42 * (life - 1);
        Check.due(name + "row", k.count(4), 0);
        Check.due(name + "octets written", k.count(3), 2 * life);
        Check.due(name + "the latest octet", k.console(0), k.word(HANDLER) >>> 8 & 255);
        Check.due(name + "keys", k.count(5), 2);
        Check.due(name + "tick(40)", k.tick(40), ticks + 40);
        Check.due(name + "octets written later", k.count(3), 2 * life);
        Check.due(name + "BUTTON 3 is pressed still", k.press(3, true), false);
        Check.due(name + "BUTTON 3", k.press(3, false), true);
        Check.due(name + "BUTTON 1 was let go", k.press(1, false), false);
        Check.due(name + "queued later", k.look(0, 5), 0);
        Check.due(name + "lost later", k.look(0, 8), 2 * life);
    }

    /** Every WORD of it, up to the end, also what was above the BREAK then. */
    private static void blockIsAllZero(boolean byFault) {
        Program p = new Program().need(NEED).ask(5, 0, BLOCK + NEED, 0, 0).li(11, BLOCK).li(6, BLOCK + NEED);
        p.raw(Program.sw(11, 6, 0), Program.addi(11, 11, 4), Program.typeB(1, 11, 6, -8));
        p = byFault ? p.raw(0) : p.ask(6, 1, 0, 0, 0);
        GrantKernel k = Program.booted(1, 11 + 3, p);
        k.run(1);
        k.ways(1, 3);
        k.run(NEED / 4 - 5);
        k.run(4);
        for (int at = BLOCK; at < BLOCK + NEED; at += 4) {
            Check.due("word(" + at + ") before", k.word(at), BLOCK + NEED);
        }
        k.ways(1, 50);
        k.run(1);
        Check.due("STARTED", k.look(0, 6), 2);
        for (int at = BLOCK; at < BLOCK + NEED; at += 4) {
            Check.due("word(" + at + ") behind its START", k.word(at), 0);
        }
    }

    /** FAULTED for good: what DRIVERS hold for it goes all the same, the keys stay. */
    private static void policyUsedUp() {
        GrantKernel k = Program.booted(0, 6, busy(true));
        live(k, 1, 0);
        fillTheQueue(k);
        k.ways(0, 50);
        Check.due("run(60) up to the FAULT", k.run(60), 2);
        Check.due("FAULTED", k.look(0, 0), GrantKernel.FAULTED);
        Check.due("STARTED", k.look(0, 6), 1);
        Check.due("row", k.count(4), 0);
        Check.due("keys", k.count(5), 2);
        k.tick(40);
        k.press(1, true);
        Check.due("octets written", k.count(3), 2);
        Check.due("lost", k.look(0, 8), 2);
        Check.due("DONE", k.look(0, 9), 1);
        Check.due("no STARTS by a higher POLICY later", k.ways(9, 50), true);
        Check.due("run(60)", k.run(60), 0);
        Check.due("FAULTED still", k.look(0, 0), GrantKernel.FAULTED);
    }

    /** Only those STARTS that came by a FAULT use up the POLICY; key 1 tells each life which one it is. */
    private static void policyAndExits() {
        Program p = new Program().need(64).ask(2, 3, 1, 1, 0);
        // x11 is 1 in the first life (NO 1), then what the life before put there
        p.raw(Program.addi(13, 11, 1), Program.addi(10, 0, 3), Program.addi(11, 0, 2), Program.ECALL);
        // the first life and each second one behind it ends by EXIT 1, the others by a FAULT
        p.raw(Program.typeI(0x13, 7, 7, 13, 1), Program.typeB(0, 7, 0, 8), 0).ask(6, 1, 0, 0, 0);
        GrantKernel k = Program.booted(2, 50, p);
        int[] stands = {0, 0, 0, 0, 0, GrantKernel.FAULTED};
        int[] started = {2, 3, 4, 5, 6, 6};
        int[] faults = {0, 1, 1, 2, 2, 3};
        for (int life = 0; life < stands.length; life++) {
            k.run(1);
            Check.due("stands behind life " + life, k.look(0, 0), stands[life]);
            Check.due("STARTED behind life " + life, k.look(0, 6), started[life]);
            Check.due("FAULTS behind life " + life, k.look(0, 7), faults[life]);
        }
        Check.due("keys", k.count(5), 1);
    }

    /** SUBSCRIBES, wants BUTTON 0, an alarm in four TICKS, writes three octets of its FLASH; then loops or ends. */
    private static Program writer(int header) {
        int handler = header + 20;
        return new Program().need(NEED).raw(Program.jalr(0, 1, 0)).entryHere()
            .ask(1, 0, 0, handler, 1).ask(1, 1, 1, handler, 2).ask(1, 2, 0, handler, 3)
            .ask(2, 2, 1, 0, 0).ask(2, 0, 2, 4, 0).ask(4, 1, 1, handler + 4, 3).ask(2, 1, 1, 3, 0);
    }

    private static int octet(GrantKernel k, int at) {
        return k.word(at & ~3) >>> 8 * (at & 3) & 255;
    }

    /** PROCESS 1 of three STARTS again while all of them write, wait for an alarm and want a BUTTON. */
    private static void othersKeepTheirs(boolean byFault) {
        Program first = writer(0).loop();
        int second = 4 * first.size();
        Program ends = writer(second);
        ends = byFault ? ends.raw(0) : ends.ask(6, 1, 0, 0, 0);
        int third = second + 4 * ends.size();
        GrantKernel k = Program.booted(1, 42, first, ends, writer(third).loop());
        k.run(3);
        Check.due("all are in the row", k.count(4), 3);
        k.tick(1);
        Check.due("run(2), and 1 ends", k.run(2), byFault ? 43 : 48);
        Check.due("1 STARTED again", k.look(1, 6), 2);
        Check.due("1 is no more in the row", k.count(4), 2);
        int[] octets = {octet(k, 25), octet(k, 26), octet(k, third + 24), octet(k, third + 25), octet(k, third + 26)};
        int[] queuedOf0 = {0, 1, 2, 2, 2};
        int[] queuedOf2 = {0, 0, 1, 1, 2};
        for (int i = 0; i < octets.length; i++) {
            k.tick(1);
            Check.due("the octet of TICK " + (i + 2), k.console(0), octets[i]);
            Check.due("UPCALLS of 0 at TICK " + (i + 2), k.look(0, 5), queuedOf0[i]);
            Check.due("UPCALLS of 1 at TICK " + (i + 2), k.look(1, 5), 0);
            Check.due("UPCALLS of 2 at TICK " + (i + 2), k.look(2, 5), queuedOf2[i]);
        }
        k.press(0, true);
        int[] queued = {3, 0, 3};
        for (int p = 0; p < 3; p++) {
            Check.due("UPCALLS of " + p + " with the BUTTON", k.look(p, 5), queued[p]);
        }
        Check.due("octets in all", k.count(3), 6);
        Check.due("row", k.count(4), 0);
    }

    /** The first of the row STARTS again: when it writes again it is the last, and begins with its first octet. */
    private static void backBehindTheOthers() {
        Program first = writer(0).ask(6, 1, 0, 0, 0);
        int second = 4 * first.size();
        GrantKernel k = Program.booted(0, 42, first, writer(second).loop());
        k.run(2);
        k.tick(2);
        k.run(2);
        Check.due("0 STARTED again", k.look(0, 6), 2);
        k.run(1);
        Check.due("0 is in the row again", k.count(4), 2);
        int[] octets = {second + 24, second + 25, second + 26, 24, 25, 26};
        for (int i = 0; i < octets.length; i++) {
            k.tick(1);
            Check.due("octet " + i, k.console(0), octet(k, octets[i]));
            Check.due("row behind octet " + i, k.count(4), i < 2 ? 2 : i < 5 ? 1 : 0);
        }
        Check.due("UPCALLS of 0: the new alarm and its three octets", k.look(0, 5), 2);
        Check.due("UPCALLS of 1: its alarm and its three octets", k.look(1, 5), 2);
    }
}
