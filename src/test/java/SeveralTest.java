/**
 * Several PROCESSES at once in the CONSOLE's row, with alarms at the same TICK and the same BUTTON wanted: promises 7
 * and 8 with the DRIVERS, over a run.
 */
public final class SeveralTest {
    private static final int LOOPS = 0, YIELDS = 1, WANTS_2 = 2, EXITS = 3;

    private static GrantKernel k;
    private static int[] headers;

    public static void main(String[] args) {
        fourOfEachKind();
        alarmsOfAll();
        rowOfFour();
        alarmAndLastOctet();
        oneQueueEach();
        Check.done();
    }

    /**
     * SUBSCRIBES with data 10, 20 and 30 above its number, wants BUTTON 1, an alarm in three TICKS, writes three octets
     * from behind its handler on; then what its kind says.
     */
    private static Program worker(int number, int header, int kind) {
        int handler = header + 20;
        Program p = new Program().need(256).raw(Program.jalr(0, 1, 0)).entryHere()
            .ask(1, 0, 0, handler, 10 + number).ask(1, 1, 1, handler, 20 + number).ask(1, 2, 0, handler, 30 + number)
            .ask(2, 2, 1, 1, 0).ask(2, 0, 2, 3, 0).ask(4, 1, 1, handler + 4, 3).ask(2, 1, 1, 3, 0);
        if (kind == YIELDS) {
            p.ask(0, 1, 0, 0, 0).raw(Program.jal(0, -24));
        } else if (kind == WANTS_2) {
            p.ask(2, 2, 1, 2, 0);
        } else if (kind == EXITS) {
            p.ask(6, 0, 0, 0, 0);
        }
        return p.loop();
    }

    /** All of them have had one turn each, long enough for all of that. */
    private static void booted(int... kinds) {
        Program[] programs = new Program[kinds.length];
        headers = new int[kinds.length];
        int header = 0;
        for (int i = 0; i < kinds.length; i++) {
            headers[i] = header;
            programs[i] = worker(i, header, kinds[i]);
            header += 4 * programs[i].size();
        }
        k = Program.booted(0, 50, programs);
        k.run(kinds.length);
    }

    private static int text(int p, int octet) {
        int at = headers[p] + 24 + octet;
        return k.word(at & ~3) >>> 8 * (at & 3) & 255;
    }

    private static void looks(String name, int what, int... due) {
        for (int p = 0; p < due.length; p++) {
            Check.due(name + ": look(" + p + ", " + what + ")", k.look(p, what), due[p]);
        }
    }

    private static void counts(String name, int octets, int row) {
        Check.due(name + ": octets written", k.count(3), octets);
        Check.due(name + ": row", k.count(4), row);
    }

    private static void done(String name, int p, int first, int second, int data) {
        int[] due = {first, second, 0, data};
        for (int i = 0; i < 4; i++) {
            Check.due(name + ": x" + (10 + i) + " of " + p, k.register(p, 10 + i), due[i]);
        }
        Check.due(name + ": PC of " + p, k.register(p, 32), headers[p] + 20);
    }

    /** 0 is READY, 1 YIELDED, 2 has four UPCALLS queued, 3 is STOPPED. */
    private static void fourOfEachKind() {
        booted(LOOPS, YIELDS, WANTS_2, EXITS);
        looks("set up", 0, GrantKernel.READY, GrantKernel.YIELDED, GrantKernel.READY, GrantKernel.STOPPED);
        counts("set up", 0, 3);
        for (int i = 0; i < 4; i++) {
            k.press(2, i % 2 == 0);
        }
        looks("four of BUTTON 2", 5, 0, 0, 4, 0);

        Check.due("TICK 1", k.tick(1), 1);
        counts("TICK 1", 1, 3);
        Check.due("TICK 1 writes for 0", k.console(0), text(0, 0));
        Check.due("BUTTON 1", k.press(1, true), true);
        looks("BUTTON 1", 0, GrantKernel.READY, GrantKernel.READY, GrantKernel.READY, GrantKernel.STOPPED);
        looks("BUTTON 1", 5, 1, 0, 4, 0);
        looks("BUTTON 1", 8, 0, 0, 1, 0);
        looks("BUTTON 1", 9, 0, 1, 0, 0);
        done("BUTTON 1", 1, 1, 1, 31);
        Check.due("BUTTON 1 is pressed already", k.press(1, true), false);
        looks("BUTTON 1 is pressed already", 5, 1, 0, 4, 0);

        k.tick(1);
        Check.due("TICK 2 writes for 0", k.console(0), text(0, 1));
        looks("TICK 2", 5, 1, 0, 4, 0);
        // the alarms of 0, 1 and 2, then the last octet of 0
        k.tick(1);
        Check.due("TICK 3 writes for 0", k.console(0), text(0, 2));
        counts("TICK 3", 3, 2);
        looks("TICK 3", 5, 3, 1, 4, 0);
        looks("TICK 3", 8, 0, 0, 2, 0);
        looks("TICK 3", 9, 0, 1, 0, 0);

        // 1 goes back from its handler and YIELDS again: its alarm is DONE
        k.ways(0, 9);
        k.run(2);
        Check.due("the turns are of 0 and 1", k.count(6), 1);
        looks("1 YIELDS again", 0, GrantKernel.READY, GrantKernel.READY, GrantKernel.READY, GrantKernel.STOPPED);
        looks("1 YIELDS again", 5, 3, 0, 4, 0);
        looks("1 YIELDS again", 9, 0, 2, 0, 0);
        // 1 (jalr), 1 (jal back), 6 (YIELD), then the handler's jalr as the ninth
        Check.due("1 is behind its YIELD", k.register(1, 32), k.register(1, 1));
        Check.due("x13 of 1 is the alarm's data", k.register(1, 13), 11);
        k.run(2);
        Check.due("2 and 0 had theirs, for 3 is STOPPED", k.count(6), 0);
        k.run(1);
        looks("1 sleeps", 0, GrantKernel.READY, GrantKernel.YIELDED, GrantKernel.READY, GrantKernel.STOPPED);

        k.tick(3);
        counts("TICK 6", 6, 1);
        for (int i = 0; i < 3; i++) {
            Check.due("octets of 1, from the last", k.console(i), text(1, 2 - i));
        }
        done("1 has written", 1, 3, 0, 21);
        looks("TICK 6", 0, GrantKernel.READY, GrantKernel.READY, GrantKernel.READY, GrantKernel.STOPPED);
        k.tick(3);
        counts("TICK 9", 9, 0);
        for (int i = 0; i < 3; i++) {
            Check.due("octets of 2, from the last", k.console(i), text(2, 2 - i));
        }
        looks("TICK 9", 5, 3, 0, 4, 0);
        looks("TICK 9", 8, 0, 0, 3, 0);
        k.tick(60);
        counts("TICK 69", 9, 0);
        looks("TICK 69", 5, 3, 0, 4, 0);
        looks("TICK 69", 9, 0, 3, 0, 0);
    }

    /** They ring at the very same TICK, YIELDED or not, and once. */
    private static void alarmsOfAll() {
        booted(YIELDS, LOOPS, YIELDS, LOOPS);
        k.tick(2);
        looks("TICK 2", 0, GrantKernel.YIELDED, GrantKernel.READY, GrantKernel.YIELDED, GrantKernel.READY);
        looks("TICK 2", 5, 0, 0, 0, 0);
        k.tick(1);
        looks("TICK 3", 0, GrantKernel.READY, GrantKernel.READY, GrantKernel.READY, GrantKernel.READY);
        looks("TICK 3", 9, 1, 0, 1, 0);
        // 0 has its three octets written with this TICK, too
        looks("TICK 3", 5, 1, 1, 0, 1);
        done("TICK 3", 0, 3, 3, 10);
        done("TICK 3", 2, 3, 3, 12);
        k.tick(2);
        looks("TICK 5", 5, 1, 1, 0, 1);
    }

    /** In the order of their COMMANDS, here 0 to 3; each leaves it behind its own last octet. */
    private static void rowOfFour() {
        booted(LOOPS, LOOPS, LOOPS, LOOPS);
        counts("at first", 0, 4);
        for (int octet = 0; octet < 12; octet++) {
            k.tick(1);
            Check.due("octet " + octet, k.console(0), text(octet / 3, octet % 3));
            counts("octet " + octet, octet + 1, 4 - (octet + 1) / 3);
            for (int p = 0; p < 4; p++) {
                int alarm = octet >= 2 ? 1 : 0;
                int written = octet >= 3 * p + 2 ? 1 : 0;
                Check.due("UPCALLS of " + p + " at octet " + octet, k.look(p, 5), alarm + written);
            }
        }
        k.tick(1);
        counts("all are written", 12, 0);
    }

    /** The alarm and the last octet at one TICK: the alarm's is DONE, the CONSOLE's is queued behind it. */
    private static void alarmAndLastOctet() {
        booted(YIELDS, YIELDS);
        k.tick(3);
        done("TICK 3", 0, 3, 3, 10);
        done("TICK 3", 1, 3, 3, 11);
        looks("TICK 3", 5, 1, 0);
        k.ways(0, 8);
        k.run(1);
        done("0 YIELDS again", 0, 3, 0, 20);
        looks("0 YIELDS again", 9, 2, 1);
        looks("0 YIELDS again", 5, 0, 0);
    }

    /** Four at most are queued for each by itself; what one loses the others get. */
    private static void oneQueueEach() {
        booted(LOOPS, WANTS_2, LOOPS);
        k.press(2, true);
        k.press(2, false);
        for (int i = 0; i < 3; i++) {
            k.press(1, i % 2 == 0);
        }
        looks("three of BUTTON 1", 5, 3, 4, 3);
        looks("three of BUTTON 1", 8, 0, 1, 0);
        k.tick(3);
        // 0 gets its alarm and loses 'written', 1 loses its alarm, 2 gets its alarm
        looks("TICK 3", 5, 4, 4, 4);
        looks("TICK 3", 8, 1, 2, 0);
        k.tick(3);
        looks("TICK 6", 8, 1, 3, 0);
        k.tick(3);
        looks("TICK 9", 5, 4, 4, 4);
        looks("TICK 9", 8, 1, 3, 1);
        counts("TICK 9", 9, 0);
    }
}
