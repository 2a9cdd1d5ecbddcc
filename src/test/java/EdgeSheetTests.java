/** Boundaries: SHEETS, promises 32 to 36. Each test quotes its sentence. */
public final class EdgeSheetTests {
    private static final long BEYOND = Edges.BEYOND;
    private static final long NONE = Edges.NONE;
    private static final long STATE = Edges.STATE;
    private static final long KIND = Edges.KIND;
    private static final long MIN = Edges.MIN;
    private static final long MAX = Edges.MAX;
    private static final Edges e = new Edges();

    public static void main(String[] args) {
        sheet();
        sheetRefused();
        put();
        putRefused();
        move();
        moveRefused();
        moveOrder();
        tells();
        judge();
        e.finish();
    }

    private static void sheet() {
        e.begin("promise 32", "A SHEET has n numbers, all 0, of so many bits (8, 16, 32 ..): 1. (SHEETS 0 .. 3, at most 24 numbers)");
        e.does("mark", 0, -1, 0, 0);
        for (int sheet = 0; sheet <= 3; sheet += 3) {
            for (int bits = 8; bits <= 32; bits *= 2) {
                e.due(1, "sheet", sheet, bits, 24);
                e.due(1, "put", sheet, 0, 9);
                e.due(1, "put", sheet, 23, 9);
                e.due(BEYOND, "put", sheet, 24, 9);
                // Anew, all are 0; of fewer, those behind are there no more.
                e.due(1, "sheet", sheet, bits, 24);
                e.due(1, "judge", sheet);
                e.due(1, "move", sheet, 23, sheet, 0, 1);
                e.due(1, "judge", sheet);
                e.due(1, "sheet", sheet, bits, 1);
                e.due(1, "put", sheet, 0, 9);
                e.due(BEYOND, "put", sheet, 1, 9);
                e.due(0, "judge", sheet);
                e.due(1, "sheet", sheet, bits, 0);
                e.due(BEYOND, "put", sheet, 0, 9);
                e.due(0, "judge", sheet);
            }
        }

        e.begin("promise 32", "(.. 0: it is missing, n doesn't matter): 1.");
        long[] any = {0, 1, 24, 25, -1, MIN, MAX};
        for (long n : any) {
            e.does("sheet", 0, 8, 2);
            e.due(1, "sheet", 0, 0, n);
            e.due(NONE, "judge", 0);
            e.due(1, "sheet", 0, 0, n);
        }
    }

    private static void sheetRefused() {
        e.begin("promise 32", "BEYOND.");
        EdgeStates.some(e);
        e.beyond("sheet", Edges.with(0, 8, 2), 0, -1, 4);
        e.beyond("sheet", Edges.with(0, 8, 2), 1, -1, 1, 7, 9, 15, 17, 24, 31, 33, 64, -8);
        e.refused(BEYOND, "sheet", 0, 8, 25);
        e.refused(BEYOND, "sheet", 3, 16, 25);
        e.refused(BEYOND, "sheet", 1, 32, MAX);

        e.begin("promise 32", "STATE: n is below 0 (ahead of BEYOND of n).");
        EdgeStates.some(e);
        for (int bits = 8; bits <= 32; bits *= 2) {
            e.refused(STATE, "sheet", 0, bits, -1);
            e.refused(STATE, "sheet", 3, bits, MIN);
        }

        e.begin("promise 32", "BEYOND. STATE: .., in this order");
        EdgeStates.some(e);
        e.refused(BEYOND, "sheet", 4, 8, -1);
        e.refused(BEYOND, "sheet", -1, 8, -1);
        e.refused(BEYOND, "sheet", 0, 7, -1);
        e.refused(BEYOND, "sheet", 4, 0, -1);
        e.refused(BEYOND, "sheet", -1, 0, 0);
    }

    private static void put() {
        e.begin("promise 33", "Number i of a SHEET becomes v (its lowest bits): 1.");
        e.does("mark", 0, -1, 0, 0);
        long[][] due = {
            {8, 256 + 5, 5}, {8, 255, -1}, {8, 236, -20}, {8, -256 + 20, 20}, {8, 65536 - 7, -7}, {8, MIN, 0}, {8, MAX, -1}, {8, MIN + 3, 3},
            {16, 65536 + 5, 5}, {16, 65535, -1}, {16, 65516, -20}, {16, -65536 + 20, 20}, {16, MIN, 0}, {16, MAX, -1},
            {32, 5, 5}, {32, -20, -20}, {32, 20, 20},
        };
        for (long[] row : due) {
            e.does("sheet", 0, row[0], 1);
            e.due(1, "put", 0, 0, row[1]);
            e.due(1, "tells", 0);
            e.due(row[2], "markIs", 0, 4);
            e.due(1, "judge", 0);
        }

        e.begin("promise 33", "(its lowest bits): what more bits hold is another number");
        e.does("mark", 0, -1, 0, 5);
        long[][] other = {{8, 128 + 5}, {8, -128 + 5}, {16, 256 + 5}, {16, 32768 + 5}, {16, -32768 + 5}, {32, 256 + 5}, {32, 65536 + 5}, {32, MIN + 5}};
        for (long[] row : other) {
            e.does("sheet", 0, row[0], 1);
            e.due(1, "put", 0, 0, row[1]);
            e.due(0, "tells", 0);
            e.due(0, "judge", 0);
        }
    }

    private static void putRefused() {
        e.begin("promise 33", "BEYOND: no such SHEET. NONE: it is missing. BEYOND: no such number. (in this order)");
        EdgeStates.some(e);
        e.due(1, "put", 0, 2, 1);
        e.beyond("put", Edges.with(0, 0, 1), 0, -1, 4);
        e.beyond("put", Edges.with(0, 0, 1), 1, -1, 3);
        e.beyond("put", Edges.with(1, 0, 1), 1, -1, 4);
        e.refused(NONE, "put", 3, 0, 1);
        e.refused(NONE, "put", 3, -1, 1);
        e.refused(NONE, "put", 3, 24, 1);
        e.refused(BEYOND, "put", 4, 0, 1);
        e.refused(BEYOND, "put", 4, 99, 1);
        e.does("sheet", 3, 32, 0);
        e.refused(BEYOND, "put", 3, 0, 1);
        e.does("sheet", 3, 32, 24);
        e.beyond("put", Edges.with(3, 23, 1), 1, -1, 24);
        e.does("sheet", 3, 0, 24);
        e.refused(NONE, "put", 3, 0, 1);
    }

    private static void move() {
        e.begin("promise 34", "n numbers of a SHEET, from number i on, come to another one (or the same), from its number j on, as they all were: n.");
        for (int i = 0; i < 8; i++) {
            e.does("mark", 0, -1, 0, 0);
        }
        counted(0, 8, 6);
        e.due(5, "move", 0, 0, 0, 1, 5);
        numbers(0, 1, 1, 2, 3, 4, 5);
        counted(0, 8, 6);
        e.due(5, "move", 0, 1, 0, 0, 5);
        numbers(0, 2, 3, 4, 5, 6, 6);
        counted(0, 16, 6);
        e.due(3, "move", 0, 0, 0, 2, 3);
        numbers(0, 1, 2, 1, 2, 3, 6);
        e.due(6, "move", 0, 0, 0, 0, 6);
        numbers(0, 1, 2, 1, 2, 3, 6);
        e.does("sheet", 3, 16, 3);
        e.due(3, "move", 0, 3, 3, 0, 3);
        numbers(3, 2, 3, 6);
        e.due(1, "move", 3, 2, 0, 0, 1);
        numbers(0, 6, 2, 1, 2, 3, 6);
        e.due(1, "move", 0, 1, 3, 2, 1);
        numbers(3, 2, 3, 2);

        e.begin("promise 34", "n numbers ..: of none nothing comes, and all of 24 are as many as can be");
        for (int i = 0; i < 8; i++) {
            e.does("mark", 0, -1, 0, 7);
        }
        e.does("sheet", 0, 32, 24);
        for (int i = 0; i < 24; i++) {
            e.does("put", 0, i, i - 3);
        }
        e.does("sheet", 1, 32, 24);
        e.due(0, "move", 0, 0, 1, 0, 0);
        e.due(0, "move", 0, 24, 1, 24, 0);
        e.due(0, "move", 0, 24, 1, 0, 0);
        numbers(1, 0, 0, 0, 0, 0, 0, 0, 0);
        e.due(24, "move", 0, 0, 1, 0, 24);
        numbers(1, -3, -2, -1, 0, 1, 2, 3, 4);
        e.due(8, "move", 1, 8, 1, 0, 8);
        numbers(1, 5, 6, 7, 8, 9, 10, 11, 12);
        e.due(8, "move", 1, 16, 1, 0, 8);
        numbers(1, 13, 14, 15, 16, 17, 18, 19, 20);
        e.does("sheet", 2, 32, 0);
        e.due(0, "move", 2, 0, 0, 24, 0);
        e.due(0, "move", 0, 0, 2, 0, 0);
    }

    /** A SHEET of 1, 2, 3, .. */
    private static void counted(int sheet, int bits, int n) {
        e.does("sheet", sheet, bits, n);
        for (int i = 0; i < n; i++) {
            e.does("put", sheet, i, i + 1);
        }
    }

    private static void numbers(int sheet, int... due) {
        e.due(due.length, "tells", sheet);
        for (int i = 0; i < due.length; i++) {
            e.due(due[i], "markIs", i, 4);
        }
    }

    private static void moveRefused() {
        e.begin("promise 34", "BEYOND: n, i, or j is below 0, or they don't stand there.");
        EdgeStates.some(e);
        e.does("sheet", 3, 16, 2);
        e.due(2, "move", 1, 2, 3, 0, 2);
        long[][] beyond = {
            {0, 0, -1}, {-1, 0, 1}, {0, -1, 1}, {-1, 0, 0}, {0, -1, 0}, {3, 0, 2}, {4, 0, 1}, {0, 0, 5}, {0, 1, 2}, {0, 2, 1}, {0, 0, 3},
            {5, 0, 0}, {0, 3, 0}, {MAX, 0, 1}, {0, MAX, 1}, {0, 0, MAX}, {1, 1, MAX}, {MIN, 0, 0}, {0, MIN, 0}, {0, 0, MIN}, {MAX, MAX, MAX}, {MIN, MIN, MIN}, {MAX, 0, MIN},
        };
        for (long[] b : beyond) {
            e.refused(BEYOND, "move", 1, b[0], 3, b[1], b[2]);
        }
        // As much of the same SHEET.
        e.due(3, "move", 1, 0, 1, 1, 3);
        e.refused(BEYOND, "move", 1, 0, 1, 1, 4);
        e.refused(BEYOND, "move", 1, 1, 1, 0, 4);
    }

    private static void moveOrder() {
        e.begin("promise 34", "BEYOND: no such SHEET. NONE: one is missing. KIND: they are of unlike bits. BEYOND: .. (in this order)");
        EdgeStates.some(e);
        e.refused(BEYOND, "move", 4, 0, 0, 0, 1);
        e.refused(BEYOND, "move", 0, 0, 4, 0, 1);
        e.refused(BEYOND, "move", -1, 0, 0, 0, 1);
        e.refused(BEYOND, "move", 0, 0, -1, 0, 1);
        e.refused(BEYOND, "move", MIN, 0, 0, 0, 1);
        e.refused(BEYOND, "move", 0, 0, MAX, 0, 1);
        // SHEET 3 is missing.
        e.refused(BEYOND, "move", 3, 0, 4, 0, 1);
        e.refused(BEYOND, "move", -1, 0, 3, 0, 1);
        e.refused(NONE, "move", 3, 0, 0, 0, 1);
        e.refused(NONE, "move", 0, 0, 3, 0, 1);
        e.refused(NONE, "move", 3, 0, 3, 0, 0);
        e.refused(NONE, "move", 3, -1, 0, -1, -1);
        e.refused(NONE, "move", 0, -1, 3, -1, -1);
        // SHEET 0 is of 8 bits, 1 and 2 of 16.
        e.refused(KIND, "move", 0, 0, 1, 0, 1);
        e.refused(KIND, "move", 1, 0, 0, 0, 0);
        e.refused(KIND, "move", 0, -1, 1, -1, -1);
        e.refused(KIND, "move", 2, 99, 0, 99, 99);
        e.due(1, "move", 1, 0, 2, 0, 1);
        e.does("sheet", 3, 32, 0);
        e.refused(KIND, "move", 1, 0, 3, 0, 0);
        e.refused(KIND, "move", 3, 0, 0, 0, 0);
    }

    private static void tells() {
        e.begin("promise 35", "Numbers of a SHEET become TOLD of MARKS 0, 1, ..: how many, up to the first that is not -20 to 20 (no ERROR then)");
        for (int i = 0; i < 4; i++) {
            e.does("mark", 0, -1, 0, 7);
        }
        int[][] due = {{-20, 1}, {20, 1}, {-21, 0}, {21, 0}, {0, 1}};
        for (int[] row : due) {
            e.does("sheet", 0, 8, 1);
            e.does("measure", 0, 7);
            e.does("put", 0, 0, row[0]);
            e.due(row[1], "tells", 0);
            e.due(row[1] == 1 ? row[0] : 7, "markIs", 0, 4);
        }
        e.does("sheet", 0, 32, 4);
        e.does("put", 0, 0, 1);
        e.does("put", 0, 1, -2);
        e.does("put", 0, 2, MIN);
        e.due(2, "tells", 0);
        // Those behind the first that isn't stay.
        e.due(-2, "markIs", 1, 4);
        e.due(7, "markIs", 2, 4);
        e.due(7, "markIs", 3, 4);
        e.does("put", 0, 2, 3);
        e.does("put", 0, 3, MAX);
        e.due(3, "tells", 0);
        e.due(7, "markIs", 3, 4);
        e.due(0, "told", 1);

        e.begin("promise 35", "or for which there is no mark.");
        e.does("sheet", 0, 8, 24);
        e.due(0, "tells", 0);
        for (int i = 1; i <= 8; i++) {
            e.does("mark", 0, -1, 0, 7);
            e.due(i, "tells", 0);
        }
        e.does("sheet", 0, 8, 3);
        e.does("measure", 3, 7);
        e.due(3, "tells", 0);
        e.due(7, "markIs", 3, 4);
        e.does("sheet", 0, 8, 0);
        e.does("measure", 0, 7);
        e.due(0, "tells", 0);
        e.due(7, "markIs", 0, 4);

        refusedBySheet("promise 35", "tells");
    }

    private static void judge() {
        e.begin("promise 36", "Numbers of a SHEET are TOLD of MARKS 0, 1, ..: how many are right, from the first on.");
        e.does("sheet", 0, 16, 24);
        e.due(0, "judge", 0);
        for (int i = 0; i < 8; i++) {
            e.does("mark", 35, -1, 0, i - 4);
            e.does("put", 0, i, i - 4);
            e.due(i + 1, "judge", 0);
        }
        e.does("put", 0, 4, 9);
        e.due(4, "judge", 0);
        e.does("put", 0, 0, 9);
        e.due(0, "judge", 0);
        // No further than its numbers are; nor does a mark's KIND, or whether it is ON, matter.
        e.does("sheet", 0, 16, 2);
        e.does("put", 0, 0, -4);
        e.does("put", 0, 1, -3);
        e.does("on", 1, 0);
        e.due(2, "judge", 0);
        e.does("sheet", 0, 16, 0);
        e.due(0, "judge", 0);

        refusedBySheet("promise 36", "judge");
    }

    private static void refusedBySheet(String where, String name) {
        e.begin(where, "BEYOND: no such SHEET. NONE: it is missing.");
        EdgeStates.some(e);
        e.beyond(name, Edges.with(0), 0, -1, 4);
        e.refused(NONE, name, 3);
        e.does("sheet", 0, 0, 3);
        e.refused(NONE, name, 0);
        e.does("sheet", 3, 32, 0);
        e.due(0, name, 3);
    }
}
