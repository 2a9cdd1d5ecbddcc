/** Boundaries: term 4 of VOICES and THE TRACE, promises 30 and 31. Each test quotes its sentence. */
public final class EdgeVoiceTests {
    private static final long BEYOND = Edges.BEYOND;
    private static final long NONE = Edges.NONE;
    private static final long MIN = Edges.MIN;
    private static final long MAX = Edges.MAX;
    private static final Edges e = new Edges();

    public static void main(String[] args) {
        wraps();
        cut();
        parted();
        partedNotByQuotient();
        refused();
        body();
        bodyRefused();
        e.finish();
    }

    /** MARK 0 of one KIND, m; then others, up to 7, of the same. */
    private static void marks(int km) {
        e.anew();
        for (int i = 0; i < 8; i++) {
            e.does("mark", km, -1, 0, 0);
        }
    }

    private static void says(long due, int mark, int voice, long x) {
        e.due(due, "voice", mark, voice, x);
    }

    private static void wraps() {
        e.begin("terms 4", "VOICES of one of MARKS, with a number x (ints that wrap); k is the number, m as told");
        marks(9);
        says(MAX, 0, 0, MAX);
        says(wrapped(MAX + 1), 1, 0, MAX);
        says(wrapped(MAX + 7), 7, 0, MAX);
        says(wrapped(2 * MAX), 0, 1, MAX);
        says(wrapped(2 * MIN), 0, 1, MIN);
        says(wrapped(2 * (MAX + 7)), 7, 1, MAX);
        says(wrapped(2 * MIN - 9), 0, 2, MIN);
        // The half that wraps to the least int, less m, is above 0.
        says(wrapped((1L << 31) - 9), 0, 2, 1L << 30);
        marks(19);
        says(wrapped(MIN - 4), 0, 0, MIN);
        says(wrapped(MIN + 1 - 4), 1, 0, MIN);
        says(wrapped(MAX + 7 - 4), 7, 0, MAX);
        says(wrapped((MIN - 4) * 2), 0, 1, MIN);
        marks(29);
        says(wrapped(0 - 2 * MIN), 0, 1, MIN);
        // 0 less the least int is that again.
        says(MIN, 0, 1, 1L << 30);
        says(wrapped(0 - 2 * MAX), 0, 1, MAX);
        says(wrapped((1L << 31) - 9), 0, 2, 1L << 30);
        marks(39);
        says(wrapped(MIN / 2 * 2 - 9), 0, 2, MIN);
        says(wrapped(MAX / 2 * 2 - 9), 0, 2, MAX);
        says(wrapped((MAX / 2 + 7) * 2 - 9), 7, 2, MAX);
        marks(49);
        says(wrapped((MIN - 4) * 3), 0, 0, MIN);
        says(wrapped((MAX + 7 - 4) * 3), 7, 0, MAX);
        says(wrapped((MIN - 4) * 6 - 9), 0, 2, MIN);
        says(wrapped((MIN + 7 - 4) * 6 - 9) ^ 7, 7, 2, MIN);
        says(MAX / 9 - 18, 0, 3, MAX);
        marks(59);
        // FAINT: x + 1 wraps to the least int, twice which is 0.
        says(wrapped(0 - 2 * (MAX + 1)), 0, 1, MAX);
        says(wrapped(0 - 2 * (MIN + 1)), 0, 1, MIN);
        says(wrapped(0 - 2 * (MAX + 1 + 7) - 9), 7, 2, MAX);
        marks(69);
        says(27, 0, 1, MIN);
        says(27, 7, 1, MAX);
        says(18, 7, 2, MAX);
    }

    private static int wrapped(long number) {
        return (int) number;
    }

    private static void cut() {
        e.begin("terms 4", "Quotients are cut toward 0. (PEAK ties: x / 2; parts: x by (m - k), cut)");
        marks(30);
        int[][] halves = {{-3, -2}, {-2, -2}, {-1, 0}, {0, 0}, {1, 0}, {2, 2}, {3, 2}};
        for (int[] half : halves) {
            says(half[1], 0, 2, half[0]);
        }
        marks(2);
        int[][] parts = {{0, 3, 1}, {0, -3, -1}, {0, 1, 0}, {0, -1, 0}, {1, 7, 7}, {1, -7, -7}, {3, 7, -7}, {3, -7, 7}, {5, 7, -2}, {5, -7, 2}, {7, 4, 0}, {7, 5, -1}, {7, -5, 1}};
        for (int[] p : parts) {
            says(p[2], p[0], 3, p[1]);
        }
        // The one quotient that wraps.
        says(MIN, 3, 3, MIN);
        says(-MAX, 3, 3, MAX);
        says(MIN, 1, 3, MIN);
    }

    private static void parted() {
        e.begin("terms 4", "13 parts: x by (m - k), cut (PARTED if that is 0; that is all that voice() answers then)");
        for (int kind = 0; kind <= 6; kind++) {
            for (int mark = 0; mark <= 7; mark += 7) {
                EdgeStates.full(e);
                e.does("become", mark, 10 * kind + mark);
                e.parted("voice", mark, 3, 9);
                e.parted("voice", mark, 3, 0);
                // Of one more, or of one less, there is an answer; the other VOICES have one, too.
                e.does("become", mark, 10 * kind + mark + 1);
                e.leads("voice", mark, 3, 9);
                e.due(2, "told", 6);
                e.does("become", mark, 10 * kind + mark);
                for (int voice = 0; voice <= 2; voice++) {
                    e.leads("voice", mark, voice, 9);
                }
                e.due(2, "told", 6);
            }
        }
        e.begin("terms 4", "PARTED if m - k is 0: of m and k below 8 just where they are alike");
        marks(0);
        for (int mark = 0; mark < 8; mark++) {
            for (int m = 0; m <= 9; m++) {
                e.does("become", mark, m);
                e.due(m == mark ? Edges.PARTED : 630 / (m - mark), "voice", mark, 3, 630);
            }
        }
        e.due(8, "told", 6);
    }

    private static void partedNotByQuotient() {
        e.begin("terms 4", "(PARTED if that is 0 ..): a quotient of 0 is an answer");
        marks(9);
        says(0, 0, 3, 0);
        says(0, 0, 3, 8);
        says(1, 0, 3, 9);
        says(0, 0, 3, -8);
        marks(19);
        // FLAT: and says(1), which is (1 + 0 - 4) * 2.
        says(-6, 0, 3, 8);
        e.due(0, "told", 6);
    }

    private static void refused() {
        e.begin("promise 30", "A VOICE of one: any number. BEYOND. PARTED.");
        e.refused(BEYOND, "voice", 0, 0, 0);
        EdgeStates.some(e);
        e.leads("voice", 3, 3, 5);
        e.beyond("voice", Edges.with(0, 0, 5), 0, -1, 4);
        e.beyond("voice", Edges.with(0, 0, 5), 1, -1, 4);
        EdgeStates.full(e);
        e.beyond("voice", Edges.with(0, 0, 5), 0, -1, 8);

        e.begin("promise 30", "any number: one that is like an ERROR is none");
        e.does("mark", 9, -1, 0, 0);
        for (int k = 1; k <= 6; k++) {
            e.due(-1000000000 - k, "voice", 0, 0, -1000000000 - k);
        }
        e.due(MIN, "voice", 0, 0, MIN);
        e.due(MAX, "voice", 0, 0, MAX);
        for (int k = 1; k <= 6; k++) {
            e.due(0, "told", k);
        }

        e.begin("promise 30", "BEYOND .. PARTED, in this order");
        EdgeStates.some(e);
        e.does("become", 0, 0);
        e.refused(BEYOND, "voice", 0, 4, 5);
        e.refused(BEYOND, "voice", 0, -1, 5);
        e.refused(BEYOND, "voice", 4, 3, 5);
        e.refused(BEYOND, "voice", -1, 3, 5);
        e.parted("voice", 0, 3, 5);
    }

    private static void body() {
        e.begin("promise 31", "THE TRACE's i-th. (the numbers of BODIES of the latest voice(), as they began, the first 30)");
        // The longest begin six, so that 30 are never reached: ties and parts of one from the air.
        e.does("mark", 49, -1, 0, 0);
        e.leads("voice", 0, 3, 9);
        traced(21, 13, 11, 50, 20, 10);
        e.leads("voice", 0, 2, 9);
        traced(51, 12, 11, 50, 20, 10);
        // The latest one's alone; of it all.
        e.does("become", 0, 69);
        e.leads("voice", 0, 0, 9);
        traced(70);

        e.begin("terms 4", "THE TRACE: .. of the latest voice(): of one that is parted those that began until then");
        e.does("mark", 49, -1, 0, 0);
        e.leads("voice", 0, 3, 9);
        e.does("become", 0, 40);
        e.leads("voice", 0, 3, 9);
        traced(21, 13);
        e.does("become", 0, 0);
        e.leads("voice", 0, 3, 9);
        traced(13);
        // One that is BEYOND is none.
        e.due(BEYOND, "voice", 1, 0, 0);
        e.due(BEYOND, "voice", 0, 4, 0);
        traced(13);
    }

    private static void traced(int... bodies) {
        e.due(bodies.length, "count", 9);
        for (int i = 0; i < bodies.length; i++) {
            e.due(bodies[i], "body", i);
        }
        e.due(NONE, "body", bodies.length);
    }

    private static void bodyRefused() {
        e.begin("promise 31", "NONE: there is none such.");
        long[] none = {-1, 0, 1, 29, 30, MIN, MAX};
        for (long i : none) {
            e.refused(NONE, "body", i);
        }
        EdgeStates.some(e);
        long bodies = e.does("count", 9);
        e.sees("those of one from the air that ties", bodies, 6);
        e.due(51, "body", 0);
        e.due(10, "body", 5);
        long[] beyond = {-1, 6, 7, 29, 30, MIN, MAX};
        for (long i : beyond) {
            e.refused(NONE, "body", i);
        }
    }
}
