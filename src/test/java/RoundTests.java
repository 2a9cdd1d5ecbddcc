/** Promises 14 to 17: rounds. */
public final class RoundTests {
    private static final Checks c = new Checks();

    public static void main(String[] args) {
        rounds();
        loose();
        round();
        seed();
        c.finish();
    }

    /** Three that tell of one picture, of weight 2 each: 0, 0, 9 agree on 3, doubts are 6, 6, 12. */
    private static PictureBlock three() {
        PictureBlock x = new PictureBlock();
        x.pictures(1);
        x.mark(0, -1, 0, 0);
        x.mark(0, -1, 0, 0);
        x.mark(0, -1, 0, 9);
        return x;
    }

    private static void rounds() {
        c.begin("promise 14: rounds");
        PictureBlock x = three();
        c.due("rounds(0)", x.rounds(0), Checks.BEYOND);
        c.due("rounds(61)", x.rounds(61), Checks.BEYOND);
        x.limit(12);
        c.due("12 isn't more than 12", x.rounds(60), 3);
        c.due("ROUND", x.count(2), 60);
        x.limit(11);
        c.due("12 is more than 11", x.rounds(1), 2);
        c.due("on", x.count(5), 3);
        c.due("DROPPED", x.count(4), 1);
        x.limit(0);
        c.due("the two agree", x.rounds(5), 2);
        // 0, 9: both doubts are 9, and of several it is the least; the last one agrees with itself.
        x.on(0, 0);
        x.on(2, 1);
        c.due("one of two", x.rounds(1), 1);
        c.due("on", x.count(5), 4);
        c.due("DROPPED", x.count(4), 2);
        x.pictures(2);
        x.on(0, 1);
        c.due("the block doesn't hold", x.rounds(2), 2);
        c.due("ROUND", x.count(2), 69);
        x.round(9999 - 7);
        c.due("beyond 9999", x.rounds(8), Checks.STATE);
        c.due("BEYOND first", x.rounds(61), Checks.BEYOND);
        c.due("ROUND stays", x.count(2), 9992);
        c.due("up to 9999", x.rounds(7), 2);
        c.due("beyond 9999", x.rounds(1), Checks.STATE);
    }

    private static void loose() {
        c.begin("promise 15: loose");
        PictureBlock x = three();
        c.due("loose(0)", x.loose(0), Checks.BEYOND);
        c.due("loose(31)", x.loose(31), Checks.BEYOND);
        x.on(0, 0);
        x.on(1, 0);
        x.on(2, 0);
        x.limit(99);
        int z = 1;
        for (int i = 0; i < 5; i++) {
            z = z * 1103515245 + 12345;
            int mark = (z >>> 8) % 3;
            z = z * 1103515245 + 12345;
            c.holds("one or more is on", x.loose(1) >= 1);
            c.due("drawn", x.markIs(mark, 4), (z >>> 8) % 41 - 20);
            c.due("is on", x.markIs(mark, 5), 1);
            c.due("z", x.count(10), z);
        }
        c.due("ROUND", x.count(2), 5);
        x.round(9970);
        c.due("beyond 9999", x.loose(30), Checks.STATE);
        c.due("z stays", x.count(10), z);
        c.due("up to 9999", x.loose(29) > 0 ? 1 : 0, 1);
        c.due("ROUND", x.count(2), 9999);
        PictureBlock none = new PictureBlock();
        c.due("without marks", none.loose(30), 0);
        c.due("no draw", none.count(10), 1);
        c.due("ROUND", none.count(2), 30);
    }

    private static void round() {
        c.begin("promise 16: round");
        PictureBlock x = new PictureBlock();
        c.due("round(9999)", x.round(9999), 0);
        c.due("round(10000)", x.round(10000), Checks.BEYOND);
        c.due("round(-1)", x.round(-1), Checks.BEYOND);
        c.due("round(3)", x.round(3), 9999);
        c.due("count(2)", x.count(2), 3);
    }

    private static void seed() {
        c.begin("promise 17: seed");
        PictureBlock x = new PictureBlock();
        c.due("seed(MIN)", x.seed(Integer.MIN_VALUE), 1);
        c.due("seed(-1)", x.seed(-1), Integer.MIN_VALUE);
        c.due("seed(-1000000001)", x.seed(-1000000001), -1);
        c.due("seed(5)", x.seed(5), -1000000001);
        c.due("no error was told", x.told(1), 0);
        x.mark(0, -1, 0, 0);
        x.loose(1);
        int z = (5 * 1103515245 + 12345) * 1103515245 + 12345;
        c.due("two draws", x.count(10), z);
        c.due("told of mark 0", x.markIs(0, 4), (z >>> 8) % 41 - 20);
    }
}
