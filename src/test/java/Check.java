/** Compares answers with those that are due, and ends a test with exit code 1 if one was wrong. */
final class Check {
    private static int compared = 0;
    private static int wrong = 0;
    private static int parts = 0;
    private static String part = "";

    private Check() {
    }

    static void part(String name) {
        part = name;
        parts++;
    }

    /** One sentence of the document with the test of its own; what it throws is a fault of it alone. */
    static void sentence(String text, Runnable test) {
        part(text);
        int before = compared;
        try {
            test.run();
        } catch (RuntimeException thrown) {
            tell("threw " + thrown);
        }
        if (compared == before) {
            tell("compared nothing");
        }
    }

    static void due(String call, long got, long want) {
        compared++;
        if (got != want) {
            tell(call + " answered " + got + ", due is " + want);
        }
    }

    static void due(String call, boolean got, boolean want) {
        due(call, got ? 1L : 0L, want ? 1L : 0L);
    }

    static void same(String what, String got, String want) {
        compared++;
        if (!got.equals(want)) {
            tell(what + ": is " + got + ", due is " + want);
        }
    }

    static void tell(String fault) {
        wrong++;
        System.out.println(part + ": " + fault);
    }

    static void end() {
        System.out.println(parts + " parts, " + compared + " answers compared, " + wrong + " wrong");
        if (wrong != 0) {
            System.exit(1);
        }
    }
}
