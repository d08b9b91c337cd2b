/** Runs the tests of one promise, prints each answer that is not the one that is due, and ends with exit code 1 then. */
final class Due {
    private final String promise;
    private String sentence = "";
    private int tests;
    private int failed;
    private boolean holds;

    Due(String promise) {
        this.promise = promise;
    }

    /** One test: what it holds the class to, in the document's words where they are short, and how. */
    void test(String name, Runnable test) {
        sentence = name;
        tests++;
        holds = true;
        try {
            test.run();
        } catch (RuntimeException | AssertionError e) {
            wrong("ended by " + e);
        }
        failed += holds ? 0 : 1;
    }

    void is(String call, long got, long want) {
        if (got != want) {
            wrong(call + " answered " + got + ", due is " + want);
        }
    }

    void is(String call, boolean got, boolean want) {
        if (got != want) {
            wrong(call + " answered " + got + ", due is " + want);
        }
    }

    void is(String call, String got, String want) {
        if (!got.equals(want)) {
            wrong(call + " answered '" + got + "', due is '" + want + "'");
        }
    }

    void isThrown(String call, Class<?> want, Runnable made) {
        String got = "nothing";
        try {
            made.run();
        } catch (RuntimeException e) {
            got = e.getClass().getName();
        }
        is(call + " throws", got, want.getName());
    }

    void end() {
        System.out.println(promise + ": " + tests + " tests, " + failed + " failed");
        if (failed != 0) {
            System.exit(1);
        }
    }

    private void wrong(String what) {
        holds = false;
        System.out.println(promise + ": " + sentence + ": " + what);
    }
}
