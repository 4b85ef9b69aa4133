import java.util.function.LongSupplier;

/** Counts the answers that are not as due; a test ends with done(). */
final class Check {
    private static int wrong = 0;
    private static int asked = 0;

    private Check() {
    }

    static void due(String call, long got, long want) {
        asked++;
        if (got != want) {
            wrong++;
            System.out.println(call + " answered " + got + ", due is " + want);
        }
    }

    static void due(String call, boolean got, boolean want) {
        due(call, got ? 1 : 0, want ? 1 : 0);
    }

    /** The class must be the very one: a NoSuchElementException is no RuntimeException here. */
    static void thrown(String call, Class<? extends RuntimeException> want, LongSupplier body) {
        asked++;
        String got = "nothing";
        try {
            body.getAsLong();
        } catch (RuntimeException e) {
            got = e.getClass().getName();
        }
        if (!got.equals(want.getName())) {
            wrong++;
            System.out.println(call + " threw " + got + ", due is " + want.getName());
        }
    }

    static void done() {
        if (asked == 0) {
            System.out.println("nothing was checked");
        }
        if (wrong != 0 || asked == 0) {
            System.exit(1);
        }
    }
}
