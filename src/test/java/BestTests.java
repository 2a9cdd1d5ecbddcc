/** Promises 18 to 21: what all agree on best. */
public final class BestTests {
    private static final Checks c = new Checks();

    public static void main(String[] args) {
        place();
        miss();
        sum();
        doubted();
        c.finish();
    }

    /** A triangle of weights 2 (5), 2 (from 0 to 1: 7), 4 (-10 told as a peak by m 7: less 1 and 1 more). */
    private static PictureBlock triangle() {
        PictureBlock x = new PictureBlock();
        x.mark(0, -1, 0, 5);
        x.mark(0, 0, 1, 7);
        x.mark(37, -1, 1, -10);
        return x;
    }

    // 2 (5 - a) = 2 (7 - b + a) and 2 (7 - b + a) = -4 (-10 - b): 2a - b = -2, 2a - 6b = 26,
    // so b = -28/5, a = -19/5; misses are 44/5, 44/5, -22/5.

    private static void place() {
        c.begin("promise 18: place");
        PictureBlock x = triangle();
        c.due("place(0, 0)", x.place(0, 0), -19);
        c.due("place(0, 1)", x.place(0, 1), 5);
        c.due("place(1, 0)", x.place(1, 0), -28);
        c.due("place(1, 1)", x.place(1, 1), 5);
        c.due("place(2, 0)", x.place(2, 0), Checks.BEYOND);
        c.due("place(-1, 0)", x.place(-1, 0), Checks.BEYOND);
        c.due("place(0, 2)", x.place(0, 2), Checks.BEYOND);
        c.due("place(0, -1)", x.place(0, -1), Checks.BEYOND);
        x.on(2, 0);
        c.due("12", x.place(1, 0), 12);
        c.due("by 1", x.place(1, 1), 1);
        x.measure(0, -7);
        c.due("0", x.place(1, 0), 0);
        c.due("0 is 0 by 1", x.place(1, 1), 1);
        x.on(0, 0);
        c.due("no way from the ground", x.place(0, 0), Checks.STATE);
        c.due("BEYOND first", x.place(0, 2), Checks.BEYOND);
        x.on(0, 1);
        x.pictures(3);
        c.due("picture 2 isn't tied", x.place(0, 0), Checks.STATE);
    }

    private static void miss() {
        c.begin("promise 19: miss");
        PictureBlock x = triangle();
        long[] above = {44, 44, -22};
        for (int mark = 0; mark < 3; mark++) {
            c.due("miss above", x.miss(mark, 0), above[mark]);
            c.due("miss below", x.miss(mark, 1), 5);
        }
        x.on(2, 0);
        c.due("of one that isn't on", x.miss(2, 0), -22);
        c.due("of one that isn't on", x.miss(2, 1), 1);
        c.due("none", x.miss(0, 0), 0);
        c.due("0 is 0 by 1", x.miss(0, 1), 1);
        c.due("miss(3, 0)", x.miss(3, 0), Checks.BEYOND);
        c.due("miss(-1, 0)", x.miss(-1, 0), Checks.BEYOND);
        c.due("miss(0, 2)", x.miss(0, 2), Checks.BEYOND);
        x.on(1, 0);
        c.due("miss(0, 0)", x.miss(0, 0), Checks.STATE);
        c.due("BEYOND first", x.miss(0, -1), Checks.BEYOND);
    }

    private static void sum() {
        c.begin("promise 20: sum");
        PictureBlock x = triangle();
        // (2 * 44 * 44 + 2 * 44 * 44 + 4 * 22 * 22) / 25 = 9680 / 25
        c.due("sum(0)", x.sum(0), 1936);
        c.due("sum(1)", x.sum(1), 5);
        c.due("sum(2)", x.sum(2), Checks.BEYOND);
        c.due("sum(-1)", x.sum(-1), Checks.BEYOND);
        x.on(2, 0);
        c.due("sum(0)", x.sum(0), 0);
        c.due("0 is 0 by 1", x.sum(1), 1);
        x.on(1, 0);
        c.due("sum(0)", x.sum(0), Checks.STATE);
        c.due("BEYOND first", x.sum(2), Checks.BEYOND);
        largest();
    }

    /** Eight of the heaviest, told as far apart as can be. */
    private static void largest() {
        PictureBlock x = new PictureBlock();
        x.pictures(4);
        Checks.readText(x, 0, "4");
        Checks.readText(x, 1, "t*2");
        int[][] ways = {{-1, 0, 20}, {0, 1, 20}, {1, 2, 20}, {2, 3, 20}, {-1, 3, -20}, {-1, 2, -20}, {0, 3, -20}, {3, 1, -20}};
        for (int[] way : ways) {
            x.mark(0, way[0], way[1], way[2]);
        }
        long[] place = new long[4];
        long line = 1;
        for (int i = 0; i < 4; i++) {
            line = Math.max(line, x.place(i, 1));
        }
        for (int i = 0; i < 4; i++) {
            place[i] = x.place(i, 0) * (line / x.place(i, 1));
        }
        long[] pull = new long[4];
        for (int[] way : ways) {
            long miss = (way[2] > 0 ? 30 : -30) * line - place[way[1]] + (way[0] < 0 ? 0 : place[way[0]]);
            pull[way[1]] += miss;
            if (way[0] >= 0) {
                pull[way[0]] -= miss;
            }
        }
        for (int i = 0; i < 4; i++) {
            c.due("what pulls at picture " + i, pull[i], 0);
        }
    }

    private static void doubted() {
        c.begin("promise 21: doubted");
        PictureBlock x = triangle();
        // All three doubts are 88 / 5: the least.
        c.due("of several the least", x.doubted(), 0);
        x.become(0, 10);
        c.holds("weight 3 on a way of 2 is no more doubted", x.doubted() == 0);
        PictureBlock y = new PictureBlock();
        y.pictures(1);
        c.due("without marks", y.doubted(), Checks.STATE);
        y.mark(0, -1, 0, 0);
        y.mark(0, -1, 0, 0);
        y.mark(0, -1, 0, -9);
        c.due("without its sign", y.doubted(), 2);
        y.on(2, 0);
        c.due("just those that are on", y.doubted(), 0);
        y.on(0, 0);
        c.due("the one that is on", y.doubted(), 1);
        y.on(1, 0);
        c.due("none is on", y.doubted(), Checks.STATE);
        c.due("told(3)", y.told(3), 2);
    }
}
