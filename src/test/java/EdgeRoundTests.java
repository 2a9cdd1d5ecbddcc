/** Boundaries: term 1 of ROUNDS and DRAWS, promises 14 to 17. Each test quotes its sentence. */
public final class EdgeRoundTests {
    private static final long BEYOND = Edges.BEYOND;
    private static final long STATE = Edges.STATE;
    private static final Edges e = new Edges();

    public static void main(String[] args) {
        rounds();
        limits();
        dropped();
        loose();
        draws();
        round();
        seed();
        e.finish();
    }

    private static void rounds() {
        e.begin("promise 14", "n (1 .. 60) ROUNDS: how many MARKS are ON. BEYOND.");
        e.due(0, "rounds", 1);
        e.due(1, "count", 2);
        e.due(0, "rounds", 60);
        e.due(61, "count", 2);
        EdgeStates.some(e);
        e.beyond("rounds", Edges.with(1), 0, 0, 61, -1);
        EdgeStates.full(e);
        e.does("limit", 99);
        for (int mark = 0; mark < 8; mark++) {
            e.does("on", mark, 1);
        }
        e.due(8, "rounds", 1);

        e.begin("promise 14", "STATE: ROUND would be above 9999.");
        int[][] taken = {{9998, 1}, {9997, 2}, {9939, 60}, {9940, 59}};
        for (int[] t : taken) {
            e.does("round", t[0]);
            e.due(0, "rounds", t[1]);
            e.due(9999, "count", 2);
        }
        e.due(STATE, "rounds", 1);
        int[][] state = {{9999, 1}, {9999, 60}, {9998, 2}, {9941, 59}, {9940, 60}};
        EdgeStates.late(e);
        for (int[] s : state) {
            e.does("round", s[0]);
            e.refused(STATE, "rounds", s[1]);
        }

        e.begin("promise 14", "BEYOND .. STATE, in this order");
        EdgeStates.late(e);
        e.beyond("rounds", Edges.with(1), 0, 0, 61, -1);
        e.refused(STATE, "rounds", 1);
    }

    private static void limits() {
        e.begin("terms 1", "A ROUND: if THE BLOCK HOLDS, and DOUBT of THE MOST DOUBTED is more than LIMIT, that one is ON no more");
        // 0, 0, 9 of weight 2: doubts are 6, 6, 12; 0, 1, 9: 20 / 3, 14 / 3, 34 / 3.
        EdgeStates.three(e, 0, 0, 9);
        e.does("limit", 12);
        e.due(3, "rounds", 1);
        e.does("limit", 11);
        e.due(2, "rounds", 1);
        e.due(3, "count", 5);
        EdgeStates.three(e, 0, 1, 9);
        e.does("limit", 12);
        e.due(3, "rounds", 60);
        e.does("limit", 11);
        e.due(2, "rounds", 1);
        e.due(3, "count", 5);

        e.begin("terms 1", "more than LIMIT: of 0 (the least), DOUBT of 0 isn't, and the least one above is");
        EdgeStates.three(e, 5, 5, 5);
        e.does("limit", 0);
        e.due(3, "rounds", 60);
        e.due(0, "count", 4);
        e.does("measure", 1, 4);
        e.due(2, "rounds", 1);
        e.due(1, "count", 4);

        e.begin("terms 1", "more than LIMIT: of 99 (the most), DOUBT of 99 isn't, and the next is");
        EdgeStates.four(e, 14);
        e.due(4, "rounds", 60);
        EdgeStates.four(e, 15);
        e.due(3, "rounds", 1);
        e.due(7, "count", 5);

        e.begin("terms 1", "THE MOST DOUBTED: that of MARKS that are ON of which DOUBT is most; of several the least. DOUBT: .. without its sign");
        EdgeStates.three(e, -9, 9, 0);
        e.does("limit", 0);
        e.due(0, "doubted");
        e.due(2, "rounds", 1);
        e.due(6, "count", 5);
        EdgeStates.three(e, 9, 0, -9);
        e.does("limit", 0);
        e.due(2, "rounds", 1);
        e.due(6, "count", 5);
        e.due(1, "rounds", 1);
        e.due(4, "count", 5);
        EdgeStates.three(e, 0, -9, 0);
        e.due(1, "doubted");
        e.does("on", 1, 0);
        e.due(0, "doubted");

        e.begin("terms 1", "A ROUND: .. ROUND is 1 more (if THE BLOCK doesn't HOLD, too)");
        EdgeStates.three(e, 0, 0, 9);
        e.does("limit", 0);
        e.does("pictures", 2);
        e.due(3, "rounds", 60);
        e.due(60, "count", 2);
        e.due(0, "count", 4);
        e.does("pictures", 1);
        e.due(2, "rounds", 1);
        e.due(1, "count", 4);
        e.due(61, "count", 2);
    }

    private static void dropped() {
        e.begin("terms 1", "DROPPED 1 more (9999 at most). (0 .. 9999; 0 at first)");
        e.does("pictures", 1);
        for (int i = 0; i < 8; i++) {
            e.does("mark", 0, -1, 0, i);
        }
        e.does("limit", 0);
        for (int i = 0; i < 384; i++) {
            if (i == 330) {
                e.does("round", 0);
            }
            e.does("loose", 30);
        }
        long dropped = e.does("count", 4);
        e.holds("some are left to 9995: " + dropped, dropped > 9900 && dropped <= 9995);
        for (int i = 0; i < 8; i++) {
            e.does("measure", i, i);
        }
        while (dropped > 9900 && dropped < 9995) {
            long more = Math.min(7, 9995 - dropped);
            dropped += more;
            for (int i = 0; i < 8; i++) {
                e.does("on", i, i <= more ? 1 : 0);
            }
            e.due(1, "rounds", more);
        }
        e.due(9995, "count", 4);
        for (int i = 0; i < 8; i++) {
            e.does("on", i, 1);
        }
        e.due(9998, "then", 3, 2);
        e.due(9999, "then", 4, 2);
        e.due(9999, "then", 5, 2);
        e.due(3, "then", 5, 0);
        e.due(5, "rounds", 3);
        e.due(9998, "count", 4);
        e.due(4, "rounds", 1);
        e.due(9999, "count", 4);
        e.due(1, "rounds", 3);
        e.due(9999, "count", 4);
    }

    private static void loose() {
        e.begin("promise 15", "n (1 .. 30) ROUNDS BY DRAWS: likewise. BEYOND.");
        e.due(0, "loose", 1);
        e.due(1, "count", 2);
        e.due(0, "loose", 30);
        e.due(31, "count", 2);
        EdgeStates.some(e);
        e.beyond("loose", Edges.with(1), 0, 0, 31, -1);
        // How many are ON, of a BLOCK that doesn't HOLD.
        EdgeStates.some(e);
        e.does("pictures", 4);
        e.due(4, "loose", 1);

        e.begin("promise 15", "STATE: ROUND would be above 9999.");
        int[][] taken = {{9998, 1}, {9997, 2}, {9969, 30}, {9970, 29}};
        for (int[] t : taken) {
            e.does("round", t[0]);
            e.due(0, "loose", t[1]);
            e.due(9999, "count", 2);
        }
        e.due(STATE, "loose", 1);
        int[][] state = {{9999, 1}, {9999, 30}, {9998, 2}, {9971, 29}, {9970, 30}};
        EdgeStates.late(e);
        for (int[] s : state) {
            e.does("round", s[0]);
            e.refused(STATE, "loose", s[1]);
        }

        e.begin("promise 15", "BEYOND .. STATE, in this order");
        EdgeStates.late(e);
        e.beyond("loose", Edges.with(1), 0, 0, 31, -1);
        e.refused(STATE, "loose", 1);
    }

    private static void draws() {
        e.begin("terms 1", "BY DRAWS a ROUND: if there are MARKS, two draws");
        e.does("loose", 30);
        e.due(1, "count", 10);
        e.does("mark", 0, -1, 0, 0);
        e.does("loose", 1);
        e.due(drawn(drawn(1)), "count", 10);
        e.does("loose", 2);
        e.due(drawn(drawn(drawn(drawn(drawn(drawn(1)))))), "count", 10);

        e.begin("terms 1", "the first one's rest by how many there are is the mark of which TOLD becomes the second one's rest by 41, less 20");
        for (int marks = 1; marks <= 8; marks += 7) {
            for (int mark = 0; mark < marks; mark += 7) {
                for (int told = -20; told <= 20; told += 20) {
                    oneDraw(marks, mark, told);
                }
            }
        }

        e.begin("terms 1", "and which is ON; then a ROUND");
        e.does("pictures", 1);
        for (int i = 0; i < 3; i++) {
            e.does("mark", 0, -1, 0, 0);
            e.does("on", i, 0);
        }
        e.leads("seed", seedOf(3, 1, 20));
        e.due(1, "loose", 1);
        e.due(2, "count", 5);
        // Of 20 and 0 the doubts are alike: the least is dropped in the same ROUND.
        e.does("limit", 0);
        e.leads("seed", seedOf(3, 2, 0));
        e.due(1, "loose", 1);
        e.due(4, "count", 5);
        e.due(1, "count", 4);

        e.begin("terms 1", "each makes it z * 1103515245 + 12345 (an int), and gives z >>> 8");
        e.does("mark", 0, -1, 0, 0);
        e.does("mark", 0, -1, 1, 0);
        e.does("mark", 0, -1, 1, 0);
        int[] seeds = {0, 1, -1, Integer.MIN_VALUE, Integer.MAX_VALUE, 77};
        for (int seed : seeds) {
            e.does("limit", 99);
            e.does("on", 0, 1);
            e.does("on", 1, 1);
            e.does("on", 2, 1);
            e.leads("seed", seed);
            e.does("loose", 1);
            int first = drawn(seed);
            int second = drawn(first);
            e.due(second, "count", 10);
            e.due(given(second) % 41 - 20, "markIs", given(first) % 3, 4);
        }
    }

    private static void oneDraw(int marks, int mark, int told) {
        e.anew();
        for (int i = 0; i < marks; i++) {
            e.does("mark", 0, -1, 0, 3);
            e.does("on", i, 0);
        }
        e.leads("seed", seedOf(marks, mark, told));
        e.due(1, "loose", 1);
        for (int i = 0; i < marks; i++) {
            e.due(i == mark ? told : 3, "markIs", i, 4);
            e.due(i == mark ? 1 : 0, "markIs", i, 5);
        }
    }

    /** A z from which on the two draws are of a mark and a TOLD, and both are below 0 as ints. */
    private static int seedOf(int marks, int mark, int told) {
        for (int z = 0; z < 1000000; z++) {
            int first = drawn(z);
            int second = drawn(first);
            boolean below = first < 0 && second < 0;
            if (below && given(first) % marks == mark && given(second) % 41 - 20 == told) {
                return z;
            }
        }
        throw new IllegalStateException("no such z");
    }

    /** What z becomes, by longs that don't wrap. */
    private static int drawn(int z) {
        long next = Math.floorMod((long) z * 1103515245L + 12345L, 1L << 32);
        return (int) (next >= 1L << 31 ? next - (1L << 32) : next);
    }

    private static long given(int z) {
        return Math.floorMod((long) z, 1L << 32) / 256;
    }

    private static void round() {
        e.begin("promise 16", "ROUND becomes v: what it was. BEYOND. (0 .. 9999; 0 at first)");
        e.due(0, "round", 9999);
        e.due(9999, "count", 2);
        e.due(9999, "round", 0);
        e.due(0, "count", 2);
        e.beyond("round", Edges.with(0), 0, -1, 10000);
        EdgeStates.late(e);
        e.beyond("round", Edges.with(0), 0, -1, 10000);
        e.due(9999, "round", 1);
    }

    private static void seed() {
        e.begin("promise 17", "z becomes v: what it was (any number).");
        long[] any = {Edges.MIN, -1000000007, -1000000006, -1000000001, -1000000000, -1, 0, 1, Edges.MAX};
        long was = 1;
        for (long v : any) {
            e.due(was, "seed", v);
            e.due(v, "count", 10);
            was = v;
        }
        for (int k = 1; k <= 6; k++) {
            e.due(0, "told", k);
        }
    }
}
