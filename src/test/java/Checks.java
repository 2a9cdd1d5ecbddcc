/** Counts tests: one begins, checks answers, and has passed if each was the one that is due. */
final class Checks {
    static final long LOW = -1000000000L;
    static final long BEYOND = LOW - 1;
    static final long NONE = LOW - 2;
    static final long STATE = LOW - 3;
    static final long FULL = LOW - 4;
    static final long KIND = LOW - 5;
    static final long PARTED = LOW - 6;

    private String test = "";
    private int wrong;
    private int passed;
    private int failed;

    void begin(String name) {
        close();
        test = name;
        wrong = 0;
    }

    void due(String call, long got, long due) {
        if (got != due) {
            wrong++;
            System.out.println(test + ": " + call + " answered " + got + ", due is " + due);
        }
    }

    void holds(String what, boolean so) {
        due(what, so ? 1 : 0, 1);
    }

    /** Prints how many have passed and failed; ends the program with exit code 1 if one failed. */
    void finish() {
        close();
        System.out.println(passed + " passed, " + failed + " failed");
        if (failed != 0) {
            System.exit(1);
        }
    }

    private void close() {
        if (!test.isEmpty()) {
            if (wrong == 0) {
                passed++;
            } else {
                failed++;
                System.out.println(test + ": FAILED");
            }
        }
        test = "";
    }

    static int feedAll(PictureBlock x, String text) {
        int fed = x.count(7);
        for (int i = 0; i < text.length(); i++) {
            fed = x.feed(text.charAt(i), 1);
        }
        return fed;
    }

    static int readText(PictureBlock x, int use, String text) {
        feedAll(x, text);
        return x.text(use);
    }
}
