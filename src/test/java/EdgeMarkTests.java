/** Boundaries: the head of the terms, term 1 of MARKS, promises 1 to 9. Each test quotes its sentence. */
public final class EdgeMarkTests {
    private static final long BEYOND = Edges.BEYOND;
    private static final Edges e = new Edges();

    public static void main(String[] args) {
        head();
        newObject();
        mark();
        markRefused();
        markIs();
        weighs();
        reads();
        ties();
        become();
        as();
        measureAndOn();
        pictures();
        limit();
        e.finish();
    }

    private static void head() {
        e.begin("what it is", "An object is used for at most 512 calls after it has been made");
        for (int i = 1; i < 511; i++) {
            e.does("limit", i % 100);
        }
        e.due(10, "limit", 7);
        e.due(7, "count", 3);

        e.begin("terms", "ERRORS are answers below -1000000000: LOW - 1 BEYOND, LOW - 2 NONE, LOW - 3 STATE, LOW - 4 FULL, LOW - 5 KIND, LOW - 6 PARTED");
        e.due(-1000000001L, "limit", 100);
        e.due(-1000000002L, "restore");
        e.due(-1000000003L, "doubted");
        for (int i = 1; i <= 24; i++) {
            e.due(i, "tell", 0);
        }
        e.due(-1000000004L, "tell", 0);
        e.does("mark", 0, -1, 0, 0);
        e.due(-1000000005L, "as", 0, 1);
        e.due(-1000000006L, "voice", 0, 3, 0);

        e.begin("terms", "ERRORS .. (in longs, too)");
        e.due(-1000000001L, "place", 2, 0);
        e.due(-1000000001L, "miss", 0, 0);
        e.due(-1000000001L, "sum", 2);
        e.due(-1000000003L, "place", 1, 0);
        e.due(-1000000003L, "sum", 0);
        e.does("mark", 0, -1, 0, 0);
        e.due(-1000000003L, "miss", 0, 0);
        e.due(3, "told", 1);
        e.due(3, "told", 3);
    }

    private static void newObject() {
        e.begin("promise 1", "All as at first; no MARKS, no TEXTS.");
        long[] counts = {0, 2, 0, 20, 0, 0, 0, 0, 0, 0, 1};
        for (int what = 0; what < counts.length; what++) {
            e.due(counts[what], "count", what);
        }
        for (int k = 1; k <= 6; k++) {
            e.due(0, "told", k);
        }
        e.due(0, "untell", 0);
        e.due(0, "untell", 1);
        e.due(0, "check");
        e.due(-10, "text", 0);
        e.due(BEYOND, "markIs", 0, 0);
        e.due(Edges.NONE, "restore");
        e.due(Edges.NONE, "body", 0);
        e.due(1, "image");

        e.begin("terms 4", "SHEETS 0 .. 3 are .. missing (as at first)");
        for (int sheet = 0; sheet <= 3; sheet++) {
            e.due(Edges.NONE, "put", sheet, 0, 0);
            e.due(Edges.NONE, "judge", sheet);
        }

        e.begin("terms 1", "each with .. ON or not (1, 0; 1 at first)");
        e.does("mark", 60, -1, 1, -3);
        e.due(1, "markIs", 0, 5);
        e.due(1, "count", 5);
    }

    private static void mark() {
        e.begin("promise 2", "One more of MARKS (km: 10 times the KIND, and m)");
        int[][] taken = {{0, 0, 0}, {9, 0, 9}, {10, 1, 0}, {60, 6, 0}, {69, 6, 9}};
        for (int i = 0; i < taken.length; i++) {
            e.due(i, "mark", taken[i][0], -1, 0, 0);
            e.due(taken[i][1], "markIs", i, 0);
            e.due(taken[i][2], "markIs", i, 1);
        }
        e.beyond("mark", Edges.with(0, -1, 0, 0), 0, -1, 70);

        e.begin("promise 2", "FROM (-1: THE GROUND) TO a PICTURE");
        for (int n = 1; n <= 4; n++) {
            e.anew();
            e.does("pictures", n);
            e.due(0, "mark", 0, -1, n - 1, 0);
            e.due(n - 1, "markIs", 0, 3);
            e.due(-1, "markIs", 0, 2);
            e.due(1, "mark", 0, -1, 0, 0);
            e.beyond("mark", Edges.with(0, -1, 0, 0), 1, -2, n);
            e.beyond("mark", Edges.with(0, -1, 0, 0), 2, n);
            if (n > 1) {
                e.due(2, "mark", 0, n - 1, 0, 0);
                e.due(n - 1, "markIs", 2, 2);
                e.due(3, "mark", 0, 0, n - 1, 0);
            }
        }
        // THE GROUND is no PICTURE: none is TO it.
        e.beyond("mark", Edges.with(0, 0, 1, 0), 2, -1, -2);

        e.begin("promise 2", "BEYOND: also FROM and TO the same.");
        e.does("pictures", 4);
        for (int picture = 0; picture < 4; picture++) {
            e.refused(BEYOND, "mark", 0, picture, picture, 0);
        }
        e.refused(BEYOND, "mark", 0, -1, -1, 0);
        e.due(0, "count", 0);

        e.begin("promise 2", "with TOLD: the number (-20 .. 20)");
        e.due(0, "mark", 0, -1, 0, -20);
        e.due(1, "mark", 0, -1, 0, 20);
        e.due(-20, "markIs", 0, 4);
        e.due(20, "markIs", 1, 4);
        e.beyond("mark", Edges.with(0, -1, 0, 0), 3, -21, 21);
        e.due(2, "mark", 0, -1, 0, 0);
    }

    private static void markRefused() {
        e.begin("promise 2", "FULL. (MARKS 0, 1, .. (at most 8))");
        for (int i = 0; i < 7; i++) {
            e.due(i, "mark", 0, -1, 0, i);
        }
        e.due(7, "mark", 69, 0, 1, 20);
        e.due(8, "count", 0);
        e.due(255, "count", 5);
        e.refused(Edges.FULL, "mark", 0, -1, 0, 0);
        e.due(8, "count", 0);
        EdgeStates.full(e);
        e.refused(Edges.FULL, "mark", 69, 3, 0, -20);

        e.begin("promise 2", "BEYOND .. FULL, in this order");
        EdgeStates.full(e);
        int[][] beyond = {{-1, -1, 0, 0}, {70, -1, 0, 0}, {0, -2, 0, 0}, {0, 4, 0, 0}, {0, 0, -1, 0}, {0, 0, 4, 0}, {0, 2, 2, 0}, {0, -1, 0, 21}, {0, -1, 0, -21}};
        for (int[] b : beyond) {
            e.refused(BEYOND, "mark", b[0], b[1], b[2], b[3]);
        }

        e.begin("promise 2", "BEYOND: one that answers an ERROR changes nothing but what told() tells");
        EdgeStates.some(e);
        for (int[] b : beyond) {
            e.refused(BEYOND, "mark", b[0], b[1] == 4 ? 3 : b[1], b[2] == 4 ? 3 : b[2], b[3]);
        }
    }

    private static void markIs() {
        e.begin("promise 3", "Of one: 0 KIND .. 7 what it SAYS now. BEYOND.");
        e.refused(BEYOND, "markIs", 0, 0);
        EdgeStates.some(e);
        e.due(1, "markIs", 0, 0);
        e.due(4, "markIs", 3, 0);
        e.due(6 - 3, "markIs", 0, 7);
        e.beyond("markIs", Edges.with(0, 0), 0, -1, 4);
        e.beyond("markIs", Edges.with(0, 0), 1, -1, 8);
        EdgeStates.full(e);
        e.due(0, "markIs", 7, 0);
        e.due(9, "markIs", 7, 1);
        e.beyond("markIs", Edges.with(0, 0), 0, -1, 8);

        e.begin("promise 3", "(FROM -1, TOLD, what it SAYS may be below 0.)");
        e.does("mark", 60, -1, 0, -20);
        e.reads(1, "0-9999");
        e.due(-1, "markIs", 0, 2);
        e.due(-20, "markIs", 0, 4);
        e.due(-30, "markIs", 0, 7);
    }

    private static void weighs() {
        e.begin("terms 1", "STAR: 1, if more than 3 MARKS that are ON are FROM or TO the PICTURE TO which it is; else as MARK, and 1");
        e.does("pictures", 3);
        e.does("mark", 20, 1, 0, 0);
        e.due(3, "markIs", 0, 6);
        e.does("mark", 0, 0, 1, 0);
        e.does("mark", 0, 2, 0, 0);
        e.due(3, "markIs", 0, 6);
        // Nor do those count that are FROM or TO just the one FROM which it is, nor another one.
        e.does("mark", 0, -1, 1, 0);
        e.does("mark", 0, 1, 2, 0);
        e.due(3, "markIs", 0, 6);
        e.does("mark", 0, 0, 2, 0);
        e.due(1, "markIs", 0, 6);
        e.does("on", 2, 0);
        e.due(3, "markIs", 0, 6);
        e.does("on", 2, 1);
        // One that isn't ON doesn't count itself.
        e.does("on", 0, 0);
        e.due(3, "markIs", 0, 6);
        e.does("mark", 0, -1, 0, 0);
        e.due(1, "markIs", 0, 6);

        e.begin("terms 1", "PEAK: 4, if m is above 4; else as MARK");
        e.does("mark", 30, -1, 0, 0);
        int[] byM = {2, 2, 2, 2, 2, 4, 4, 4, 4, 4};
        for (int m = 0; m <= 9; m++) {
            e.does("become", 0, 30 + m);
            e.due(byM[m], "markIs", 0, 6);
        }
        // It is 4 that a TEXT is given, not more that is held.
        e.reads(0, "w-1");
        e.due(3, "markIs", 0, 6);

        e.begin("terms 1", "AIR: as FLAT, if ROUND is even; else 1");
        e.does("mark", 40, -1, 0, 0);
        int[] rounds = {0, 1, 2, 9998, 9999};
        for (int round : rounds) {
            e.does("round", round);
            e.due(round % 2 == 0 ? 3 : 1, "markIs", 0, 6);
        }
        // It is 1 that a TEXT is given, not less that is held.
        e.reads(0, "w+1");
        e.due(2, "markIs", 0, 6);

        e.begin("terms 1", "FAINT: as STAR, less 1 (held within 1 .. 4)");
        e.does("mark", 50, -1, 0, 0);
        e.does("mark", 0, -1, 0, 0);
        e.does("mark", 0, -1, 0, 0);
        e.due(2, "markIs", 0, 6);
        e.does("mark", 0, -1, 0, 0);
        e.due(1, "markIs", 0, 6);
        // It WEIGHS 0: a TEXT is given that, and what it gives is held.
        e.reads(0, "w+2");
        e.due(2, "markIs", 0, 6);

        e.begin("terms 1", "SHORE: twice as MARK; FLAT: as MARK, and 1; WEIGHT held within 1 .. 4");
        e.does("mark", 60, -1, 0, 0);
        e.due(4, "markIs", 0, 6);
        e.reads(0, "w+1");
        e.due(4, "markIs", 0, 6);
        e.reads(0, "w-3");
        e.due(1, "markIs", 0, 6);
        e.reads(0, "w-4");
        e.due(1, "markIs", 0, 6);
        e.reads(0, "w-5");
        e.due(1, "markIs", 0, 6);
        e.does("become", 0, 10);
        e.reads(0, "w");
        e.due(3, "markIs", 0, 6);
    }

    private static void reads() {
        e.begin("terms 1", "PEAK: as MARK, and the rest of m by 3, less 1");
        e.does("mark", 30, -1, 0, 20);
        int[] by = {-1, 0, 1, -1, 0, 1, -1, 0, 1, -1};
        for (int m = 0; m <= 9; m++) {
            e.does("become", 0, 30 + m);
            e.does("measure", 0, 20);
            e.due(20 + by[m], "markIs", 0, 7);
            e.does("measure", 0, -20);
            e.due(-20 + by[m], "markIs", 0, 7);
        }

        e.begin("terms 1", "AIR: as FLAT, and the rest of ROUND by 1 more than m");
        e.does("mark", 40, -1, 0, 20);
        int[][] airs = {{0, 0, 0}, {0, 9999, 0}, {1, 1, 1}, {1, 2, 0}, {9, 9, 9}, {9, 10, 0}, {9, 9999, 9}, {8, 9999, 0}, {6, 9999, 3}};
        for (int[] air : airs) {
            e.does("become", 0, 40 + air[0]);
            e.does("round", air[1]);
            e.due(20 + air[2], "markIs", 0, 7);
        }

        e.begin("terms 1", "FAINT: twice the half of STAR's (cut)");
        e.does("mark", 59, -1, 0, 0);
        int[][] faints = {{-20, -20}, {-19, -18}, {-3, -2}, {-2, -2}, {-1, 0}, {0, 0}, {1, 0}, {2, 2}, {3, 2}, {19, 18}, {20, 20}};
        for (int[] faint : faints) {
            e.does("measure", 0, faint[0]);
            e.due(faint[1], "markIs", 0, 7);
        }

        e.begin("terms 1", "SHORE: as MARK, but 0, if that is below 0; less m");
        e.does("mark", 60, -1, 0, 0);
        int[][] shores = {{0, -20, 0}, {0, -1, 0}, {0, 0, 0}, {0, 1, 1}, {0, 20, 20}, {9, -20, -9}, {9, 0, -9}, {9, 1, -8}, {9, 20, 11}, {5, 4, -1}};
        for (int[] shore : shores) {
            e.does("become", 0, 60 + shore[0]);
            e.does("measure", 0, shore[1]);
            e.due(shore[2], "markIs", 0, 7);
        }
    }

    private static void ties() {
        e.begin("terms 1", "A PICTURE is TIED .., if a way of them goes from THE GROUND to it (FROM, TO either way)");
        e.does("pictures", 4);
        e.due(0, "count", 6);
        e.does("mark", 0, 0, 1, 0);
        e.does("mark", 0, 1, 2, 0);
        e.does("mark", 0, 2, 3, 0);
        e.does("mark", 0, 3, 0, 0);
        // A ring without a way from THE GROUND.
        e.due(0, "count", 6);
        e.does("on", 3, 0);
        e.does("mark", 0, -1, 3, 0);
        e.due(15, "count", 6);
        e.does("on", 1, 0);
        e.due(12, "count", 6);
        e.does("on", 4, 0);
        e.due(0, "count", 6);

        e.begin("terms 1", "THE BLOCK HOLDS, if each PICTURE is TIED by the MARKS that are ON");
        e.refused(Edges.STATE, "doubted");
        e.does("pictures", 1);
        e.refused(Edges.STATE, "doubted");
        e.does("mark", 0, -1, 0, 0);
        e.due(0, "doubted");
        e.does("pictures", 2);
        e.refused(Edges.STATE, "doubted");
        e.does("mark", 0, 1, 0, 0);
        e.due(0, "doubted");
        e.does("on", 0, 0);
        e.refused(Edges.STATE, "doubted");
    }

    private static void become() {
        e.begin("promise 4", "One becomes one of a KIND, with m (km): the KIND that it was. BEYOND.");
        e.refused(BEYOND, "become", 0, 0);
        EdgeStates.some(e);
        e.due(1, "become", 0, 0);
        e.due(0, "become", 0, 69);
        e.due(6, "markIs", 0, 0);
        e.due(9, "markIs", 0, 1);
        e.due(6, "become", 0, 9);
        e.due(0, "markIs", 0, 0);
        e.due(9, "markIs", 0, 1);
        e.due(4, "become", 3, 10);
        e.due(1, "markIs", 3, 0);
        e.due(0, "markIs", 3, 1);
        e.beyond("become", Edges.with(0, 0), 0, -1, 4);
        e.beyond("become", Edges.with(0, 0), 1, -1, 70);
    }

    private static void as() {
        e.begin("promise 5", "BEYOND. KIND: it isn't of that KIND, nor of one under it.");
        e.refused(BEYOND, "as", 0, 0);
        EdgeStates.some(e);
        int[] above = {-1, 0, 0, 0, 1, 2, 0};
        for (int kind = 0; kind <= 6; kind++) {
            e.does("become", 0, 10 * kind + 3);
            for (int wanted = 0; wanted <= 6; wanted++) {
                if (wanted == kind || wanted == 0 || wanted == above[kind]) {
                    e.due(3, "as", 0, wanted);
                } else {
                    e.due(Edges.KIND, "as", 0, wanted);
                }
            }
        }
        EdgeStates.some(e);
        e.due(4, "as", 1, 3);
        e.refused(Edges.KIND, "as", 1, 1);
        e.refused(Edges.KIND, "as", 1, 6);
        e.refused(Edges.KIND, "as", 0, 4);

        e.begin("promise 5", "BEYOND .. KIND, in this order");
        EdgeStates.some(e);
        e.beyond("as", Edges.with(0, 1), 0, -1, 4);
        e.beyond("as", Edges.with(0, 1), 1, -1, 7);
        e.due(2, "as", 0, 0);
        e.due(Edges.KIND, "as", 0, 6);
        e.refused(BEYOND, "as", 4, 6);
    }

    private static void measureAndOn() {
        e.begin("promise 6", "TOLD of one becomes v: what it was. BEYOND.");
        e.refused(BEYOND, "measure", 0, 0);
        EdgeStates.some(e);
        e.due(6, "measure", 0, -20);
        e.due(-20, "measure", 0, 20);
        e.due(4, "measure", 3, 20);
        e.due(20, "markIs", 0, 4);
        e.beyond("measure", Edges.with(0, 0), 0, -1, 4);
        e.beyond("measure", Edges.with(0, 0), 1, -21, 21);

        e.begin("promise 7", "Whether one is ON (1, 0) becomes v: what it was. BEYOND.");
        e.refused(BEYOND, "on", 0, 1);
        EdgeStates.full(e);
        e.due(1, "on", 7, 0);
        e.due(0, "on", 7, 0);
        e.due(127, "count", 5);
        e.due(0, "on", 7, 1);
        e.due(1, "on", 7, 1);
        e.due(1, "on", 0, 0);
        e.due(254, "count", 5);
        e.beyond("on", Edges.with(0, 1), 0, -1, 8);
        e.beyond("on", Edges.with(0, 1), 1, -1, 2);
        e.beyond("on", Edges.with(7, 0), 1, -1, 2);
    }

    private static void pictures() {
        e.begin("promise 8", "There are n PICTURES: how many there were. BEYOND. (1 to 4 of them; 2 at first)");
        e.due(2, "pictures", 4);
        e.due(4, "pictures", 1);
        e.due(1, "count", 1);
        e.due(1, "pictures", 4);
        e.beyond("pictures", Edges.with(1), 0, 0, 5, -1);
        e.due(4, "count", 1);

        e.begin("promise 8", "STATE: one of MARKS is FROM or TO one that there wouldn't be.");
        for (int last = 0; last <= 3; last++) {
            for (int way = 0; way < 2; way++) {
                e.anew();
                e.does("pictures", 4);
                if (last == 0 || way == 0) {
                    e.does("mark", 0, -1, last, 0);
                } else {
                    e.does("mark", 0, last, 0, 0);
                }
                e.does("mark", 0, -1, 0, 0);
                // Whether they are ON doesn't matter.
                e.does("on", 0, 0);
                e.due(4, "pictures", last + 1);
                for (int n = 1; n <= last; n++) {
                    e.refused(Edges.STATE, "pictures", n);
                }
            }
        }
        EdgeStates.some(e);
        e.refused(Edges.STATE, "pictures", 2);
        e.due(3, "pictures", 3);
        // Of all eight MARKS just the last one is at PICTURE 3.
        e.anew();
        e.does("pictures", 4);
        for (int i = 0; i < 7; i++) {
            e.does("mark", 0, -1, 2, 0);
        }
        e.does("mark", 0, 3, 0, 0);
        e.refused(Edges.STATE, "pictures", 3);
        e.due(4, "pictures", 4);

        e.begin("promise 8", "BEYOND .. STATE, in this order");
        EdgeStates.some(e);
        e.refused(BEYOND, "pictures", 0);
        e.refused(BEYOND, "pictures", -1);
        e.refused(BEYOND, "pictures", Edges.MIN);
        e.refused(Edges.STATE, "pictures", 1);
        e.refused(BEYOND, "pictures", 5);
    }

    private static void limit() {
        e.begin("promise 9", "LIMIT becomes v: what it was. BEYOND. (0 .. 99; 20 at first)");
        e.due(20, "limit", 0);
        e.due(0, "limit", 99);
        e.due(99, "count", 3);
        e.beyond("limit", Edges.with(0), 0, -1, 100);
        EdgeStates.some(e);
        e.beyond("limit", Edges.with(0), 0, -1, 100);
        e.due(7, "limit", 1);
    }
}
