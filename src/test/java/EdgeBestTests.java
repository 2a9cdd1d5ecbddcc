import java.math.BigInteger;

/** Boundaries: what all agree on best, promises 18 to 21. Each test quotes its sentence. */
public final class EdgeBestTests {
    private static final long BEYOND = Edges.BEYOND;
    private static final long STATE = Edges.STATE;
    private static final Edges e = new Edges();

    public static void main(String[] args) {
        place();
        miss();
        sum();
        heaviest();
        doubted();
        e.finish();
    }

    private static void place() {
        e.begin("promise 18", "part 0 above the line (it may be below 0), 1 below it, in lowest terms (0 is 0 by 1).");
        e.does("pictures", 1);
        e.does("mark", 0, -1, 0, 0);
        e.does("mark", 0, -1, 0, 0);
        int[][] due = {{1, 2, 3, 2}, {1, 3, 2, 1}, {-1, -2, -3, 2}, {-1, -3, -2, 1}, {1, -1, 0, 1}, {0, 0, 0, 1}, {20, 20, 20, 1}, {-20, -20, -20, 1}, {-1, 0, -1, 2}};
        for (int[] row : due) {
            e.does("measure", 0, row[0]);
            e.does("measure", 1, row[1]);
            e.due(row[2], "place", 0, 0);
            e.due(row[3], "place", 0, 1);
        }

        // Three of weight 3, a way and one beside it: each misses a third of 1.
        e.anew();
        e.does("mark", 10, -1, 0, 0);
        e.does("mark", 10, 0, 1, 0);
        e.does("mark", 10, -1, 1, 1);
        for (int picture = 0; picture <= 1; picture++) {
            e.due(1 + picture, "place", picture, 0);
            e.due(3, "place", picture, 1);
        }

        e.begin("promise 18", "PLACE of a PICTURE: .. BEYOND.");
        for (int n = 1; n <= 4; n++) {
            e.anew();
            e.does("pictures", n);
            for (int picture = 0; picture < n; picture++) {
                e.does("mark", 0, -1, picture, picture + 5);
            }
            e.due(n + 4, "place", n - 1, 0);
            e.due(1, "place", n - 1, 1);
            e.due(5, "place", 0, 0);
            e.beyond("place", Edges.with(0, 0), 0, -1, n);
            e.beyond("place", Edges.with(0, 0), 1, -1, 2);
        }
        EdgeStates.some(e);
        e.beyond("place", Edges.with(0, 0), 0, -1, 3);
        e.beyond("place", Edges.with(2, 1), 1, -1, 2);

        e.begin("promise 18", "STATE: THE BLOCK doesn't HOLD. (BEYOND .. STATE, in this order)");
        EdgeStates.apart(e);
        // The third PICTURE is TIED, but not each one.
        e.refused(STATE, "place", 2, 0);
        e.refused(STATE, "place", 0, 1);
        e.beyond("place", Edges.with(2, 0), 0, -1, 3);
        e.beyond("place", Edges.with(2, 0), 1, -1, 2);
    }

    private static void miss() {
        e.begin("promise 19", "MISS of a mark, likewise. (ON or not; it may be below 0; 0 is 0 by 1)");
        e.does("pictures", 2);
        e.does("mark", 0, -1, 0, 4);
        e.does("mark", 0, -1, 0, 1);
        e.does("mark", 0, 0, 1, 3);
        e.does("mark", 0, 1, 0, 20);
        e.does("on", 3, 0);
        // PLACES are 5 / 2 and 11 / 2.
        int[][] due = {{3, 2}, {-3, 2}, {0, 1}, {23, 1}};
        for (int mark = 0; mark < 4; mark++) {
            e.due(due[mark][0], "miss", mark, 0);
            e.due(due[mark][1], "miss", mark, 1);
        }

        e.begin("promise 19", "MISS of a mark: .. BEYOND.");
        EdgeStates.some(e);
        e.beyond("miss", Edges.with(0, 0), 0, -1, 4);
        e.beyond("miss", Edges.with(3, 1), 1, -1, 2);
        EdgeStates.full(e);
        e.does("miss", 7, 0);
        e.beyond("miss", Edges.with(0, 0), 0, -1, 8);

        e.begin("promise 19", "STATE: THE BLOCK doesn't HOLD. (BEYOND .. STATE, in this order)");
        e.refused(BEYOND, "miss", 0, 0);
        EdgeStates.apart(e);
        e.refused(STATE, "miss", 0, 0);
        e.refused(STATE, "miss", 3, 1);
        e.beyond("miss", Edges.with(3, 0), 0, -1, 4);
        e.beyond("miss", Edges.with(3, 0), 1, -1, 2);
    }

    private static void sum() {
        e.begin("promise 20", "SUM, likewise. (in lowest terms; 0 is 0 by 1)");
        e.does("pictures", 1);
        e.does("mark", 0, -1, 0, 0);
        e.due(0, "sum", 0);
        e.due(1, "sum", 1);
        e.does("mark", 0, -1, 0, 1);
        // Both miss 1 / 2, of weight 2.
        e.due(1, "sum", 0);
        e.due(1, "sum", 1);
        e.does("become", 1, 10);
        // PLACE is 3 / 5: 2 * 9 / 25 and 3 * 4 / 25.
        e.due(6, "sum", 0);
        e.due(5, "sum", 1);
        // One that isn't ON misses, but not in SUM.
        e.does("mark", 0, -1, 0, 20);
        e.does("on", 2, 0);
        e.due(6, "sum", 0);
        e.due(97, "miss", 2, 0);

        e.begin("promise 20", "SUM .. BEYOND.");
        EdgeStates.some(e);
        e.beyond("sum", Edges.with(0), 0, -1, 2);

        e.begin("promise 20", "STATE: THE BLOCK doesn't HOLD. (BEYOND .. STATE, in this order)");
        e.refused(STATE, "sum", 0);
        EdgeStates.apart(e);
        e.refused(STATE, "sum", 0);
        e.refused(STATE, "sum", 1);
        e.beyond("sum", Edges.with(0), 0, -1, 2);
    }

    /** As many as can be, as heavy, and as far apart: SUM is what all misses tell, in no wrapped long. */
    private static void heaviest() {
        e.begin("terms 1", "SUM is least: .. WEIGHT times the square of its MISS, all together (8 MARKS, WEIGHTS of 4, -30 and 30)");
        int[][] ways = {{-1, 0, 20}, {0, 1, 20}, {1, 2, 20}, {2, 3, 20}, {-1, 3, -20}, {-1, 2, -20}, {0, 3, -20}, {3, 1, -20}};
        e.does("pictures", 4);
        for (int[] way : ways) {
            e.does("mark", 60, way[0], way[1], way[2]);
        }
        e.reads(1, "t*2");
        BigInteger above = BigInteger.ZERO;
        BigInteger below = BigInteger.ONE;
        for (int mark = 0; mark < 8; mark++) {
            e.due(4, "markIs", mark, 6);
            e.due(mark < 4 ? 30 : -30, "markIs", mark, 7);
            BigInteger missAbove = BigInteger.valueOf(e.does("miss", mark, 0));
            BigInteger missBelow = BigInteger.valueOf(e.does("miss", mark, 1));
            BigInteger square = missBelow.multiply(missBelow);
            above = above.multiply(square).add(missAbove.multiply(missAbove).multiply(BigInteger.valueOf(4)).multiply(below));
            below = below.multiply(square);
        }
        BigInteger common = above.gcd(below);
        e.due(above.divide(common).longValueExact(), "sum", 0);
        e.due(below.divide(common).longValueExact(), "sum", 1);
        e.holds("it is more than 0", above.signum() > 0);
    }

    private static void doubted() {
        e.begin("promise 21", "THE MOST DOUBTED. (of several the least)");
        EdgeStates.full(e);
        for (int mark = 0; mark < 8; mark++) {
            e.does("become", mark, 0);
            e.does("measure", mark, 0);
        }
        e.does("untell", 0);
        e.does("untell", 1);
        e.due(0, "doubted");
        // All agree: each DOUBT is 0, and the least of those that are ON is it.
        e.does("on", 0, 0);
        e.due(1, "doubted");
        e.does("measure", 7, 1);
        e.due(7, "doubted");
        e.does("measure", 7, -1);
        e.due(7, "doubted");

        e.begin("promise 21", "STATE: THE BLOCK doesn't HOLD.");
        e.refused(STATE, "doubted");
        EdgeStates.apart(e);
        e.refused(STATE, "doubted");
        e.does("on", 0, 1);
        e.does("doubted");
        e.does("on", 3, 0);
        e.refused(STATE, "doubted");
    }
}
