import java.util.Objects;

/** Runs tests, prints which failed, and how many passed. */
final class Suite {
    interface Test {
        void run() throws Throwable;
    }

    private final String name;
    private int passed = 0;
    private int failed = 0;

    Suite(String name) {
        this.name = name;
    }

    void run(String test, Test body) {
        try {
            body.run();
            passed++;
        } catch (Throwable t) {
            failed++;
            Throwable cause = t instanceof java.lang.reflect.InvocationTargetException && t.getCause() != null ? t.getCause() : t;
            System.out.println("FAILED " + name + ", " + test + ": " + cause);
            if (!(cause instanceof AssertionError)) cause.printStackTrace(System.out);
        }
    }

    static void same(String what, Object due, Object got) {
        if (!Objects.equals(due, got)) throw new AssertionError(what + ": due is " + due + ", got " + got);
    }

    /** The last line tells the numbers; the exit code is 1 if a test failed or none ran. */
    void close() {
        System.out.println(name + ": " + passed + " passed, " + failed + " failed");
        if (failed > 0 || passed == 0) System.exit(1);
    }
}
