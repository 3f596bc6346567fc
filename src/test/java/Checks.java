/** Counts tests: one is passed if none of its answers was another than the one that is due. */
final class Checks {
    private int passed = 0;
    private int failed = 0;
    private String test = "";
    private boolean isWrong = false;

    void begin(String name) {
        test = name;
        isWrong = false;
    }

    void due(String what, long got, long want) {
        if (got != want) {
            wrong(what + " answered " + got + ", due is " + want);
        }
    }

    void wrong(String message) {
        isWrong = true;
        System.out.println(test + ": " + message);
    }

    void end() {
        if (isWrong) {
            failed++;
        } else {
            passed++;
        }
    }

    void finish() {
        System.out.println(passed + " passed, " + failed + " failed");
        if (failed != 0) {
            System.exit(1);
        }
    }
}
