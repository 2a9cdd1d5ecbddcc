/** Promises 1 to 9: a new object; marks, pictures. */
public final class MarkTests {
    private static final Checks c = new Checks();

    public static void main(String[] args) {
        newObject();
        mark();
        markIs();
        weighsOfKinds();
        readsOfKinds();
        become();
        as();
        measure();
        on();
        pictures();
        limit();
        c.finish();
    }

    private static void newObject() {
        c.begin("promise 1: a new object");
        PictureBlock x = new PictureBlock();
        long[] counts = {0, 2, 0, 20, 0, 0, 0, 0, 0, 0, 1};
        for (int what = 0; what < counts.length; what++) {
            c.due("count(" + what + ")", x.count(what), counts[what]);
        }
        for (int k = 1; k <= 6; k++) {
            c.due("told(" + k + ")", x.told(k), 0);
        }
        c.due("untell(0)", x.untell(0), 0);
        c.due("untell(1)", x.untell(1), 0);
        for (int sheet = 0; sheet < 4; sheet++) {
            c.due("judge of a missing sheet", x.judge(sheet), Checks.NONE);
        }
        c.due("body(0)", x.body(0), Checks.NONE);
        c.due("restore()", x.restore(), Checks.NONE);
        c.due("markIs(0, 0)", x.markIs(0, 0), Checks.BEYOND);
        c.due("another's count(0)", other().count(0), 0);
    }

    private static PictureBlock other() {
        new PictureBlock().mark(0, -1, 0, 0);
        return new PictureBlock();
    }

    private static void mark() {
        c.begin("promise 2: mark");
        PictureBlock x = new PictureBlock();
        int[][] beyond = {
            {-1, -1, 0, 0}, {70, -1, 0, 0}, {0, -2, 0, 0}, {0, 2, 0, 0}, {0, 0, -1, 0}, {0, 0, 2, 0},
            {0, -1, 0, 21}, {0, -1, 0, -21}, {0, 1, 1, 0}, {0, -1, -1, 0},
            {Integer.MIN_VALUE, -1, 0, 0}, {0, Integer.MAX_VALUE, 0, 0}, {0, -1, Integer.MIN_VALUE, 0},
        };
        for (int[] b : beyond) {
            c.due("mark beyond", x.mark(b[0], b[1], b[2], b[3]), Checks.BEYOND);
        }
        c.due("count(0)", x.count(0), 0);
        c.due("mark(69, -1, 1, -20)", x.mark(69, -1, 1, -20), 0);
        c.due("mark(0, 1, 0, 20)", x.mark(0, 1, 0, 20), 1);
        for (int i = 2; i < 8; i++) {
            c.due("mark " + i, x.mark(12, -1, 0, i), i);
        }
        c.due("the ninth", x.mark(12, -1, 0, 0), Checks.FULL);
        c.due("the ninth, BEYOND first", x.mark(12, -1, 0, 21), Checks.BEYOND);
        c.due("count(0)", x.count(0), 8);
        c.due("count(5)", x.count(5), 255);
    }

    private static void markIs() {
        c.begin("promise 3: markIs");
        PictureBlock x = new PictureBlock();
        x.mark(69, -1, 1, -20);
        x.mark(34, 1, 0, 20);
        long[][] due = {{6, 9, -1, 1, -20, 1, 4, -9}, {3, 4, 1, 0, 20, 1, 2, 20}};
        for (int mark = 0; mark < 2; mark++) {
            for (int what = 0; what < 8; what++) {
                c.due("markIs(" + mark + ", " + what + ")", x.markIs(mark, what), due[mark][what]);
            }
        }
        x.on(1, 0);
        c.due("whether it is ON", x.markIs(1, 5), 0);
        c.due("mark -1", x.markIs(-1, 0), Checks.BEYOND);
        c.due("mark 2", x.markIs(2, 0), Checks.BEYOND);
        c.due("what -1", x.markIs(0, -1), Checks.BEYOND);
        c.due("what 8", x.markIs(0, 8), Checks.BEYOND);
    }

    private static void weighsOfKinds() {
        c.begin("promise 3: what each kind weighs");
        PictureBlock x = new PictureBlock();
        x.mark(0, -1, 0, 0);
        int[] kms = {0, 9, 10, 20, 34, 35, 40, 50, 60};
        int[] even = {2, 2, 3, 3, 2, 4, 3, 2, 4};
        int[] odd = {2, 2, 3, 3, 2, 4, 1, 2, 4};
        int[] crowded = {2, 2, 3, 1, 2, 4, 1, 1, 4};
        weighs(x, kms, even, "at round 0");
        x.round(1);
        weighs(x, kms, odd, "at round 1");
        // 3 at the picture aren't more than 3; nor do those count that are elsewhere or not on.
        x.mark(0, 1, 0, 0);
        x.mark(0, 0, 1, 0);
        x.mark(0, -1, 1, 0);
        x.mark(0, -1, 0, 0);
        x.on(4, 0);
        weighs(x, kms, odd, "with 3");
        x.on(4, 1);
        weighs(x, kms, crowded, "with 4");
        // A faint one's 0 is held to 1 only behind the text.
        Checks.readText(x, 0, "w+1");
        x.become(0, 50);
        c.due("a crowded faint one by w+1", x.markIs(0, 6), 1);
        x.become(0, 20);
        c.due("a crowded star by w+1", x.markIs(0, 6), 2);
        Checks.readText(x, 0, "w-1");
        weighs(x, new int[] {0, 10, 35, 60}, new int[] {1, 2, 3, 3}, "by w-1");
        Checks.readText(x, 0, "k+n*5");
        c.due("k and n", x.markIs(0, 6), 4);
        x.round(8);
        Checks.readText(x, 0, "k-2+n");
        c.due("k, n is 0 at 8", x.markIs(0, 6), 2);
        x.on(0, 0);
        c.due("k without itself", x.markIs(0, 6), 1);
    }

    private static void weighs(PictureBlock x, int[] kms, int[] due, String when) {
        for (int i = 0; i < kms.length; i++) {
            x.become(0, kms[i]);
            c.due("weight of " + kms[i] + " " + when, x.markIs(0, 6), due[i]);
        }
    }

    private static void readsOfKinds() {
        c.begin("promise 3: what each kind reads");
        PictureBlock x = new PictureBlock();
        x.mark(0, -1, 0, 7);
        int[] kms = {9, 19, 29, 30, 31, 32, 39, 40, 43, 49, 59, 60, 63};
        int[] plus = {7, 7, 7, 6, 7, 8, 6, 7, 7 + 13 % 4, 7 + 13 % 10, 6, 7, 4};
        int[] minus = {-7, -7, -7, -8, -7, -6, -8, -7, -7 + 13 % 4, -7 + 13 % 10, -6, 0, -3};
        x.round(13);
        for (int i = 0; i < kms.length; i++) {
            x.become(0, kms[i]);
            x.measure(0, 7);
            c.due("what " + kms[i] + " says of 7", x.markIs(0, 7), plus[i]);
            x.measure(0, -7);
            c.due("what " + kms[i] + " says of -7", x.markIs(0, 7), minus[i]);
        }
        Checks.readText(x, 1, "s*100+t*10+n");
        c.due("held above -30", x.markIs(0, 7), -30);
        Checks.readText(x, 1, "t*3+s*0+n");
        c.due("t and n", x.markIs(0, 7), -16);
    }

    private static void become() {
        c.begin("promise 4: become");
        PictureBlock x = new PictureBlock();
        x.mark(12, -1, 0, 3);
        c.due("become(0, 69)", x.become(0, 69), 1);
        c.due("become(0, 0)", x.become(0, 0), 6);
        c.due("become(0, 48)", x.become(0, 48), 0);
        c.due("kind", x.markIs(0, 0), 4);
        c.due("m", x.markIs(0, 1), 8);
        c.due("told stays", x.markIs(0, 4), 3);
        c.due("km -1", x.become(0, -1), Checks.BEYOND);
        c.due("km 70", x.become(0, 70), Checks.BEYOND);
        c.due("mark 1", x.become(1, 0), Checks.BEYOND);
        c.due("mark -1", x.become(-1, 0), Checks.BEYOND);
        c.due("kind stays", x.markIs(0, 0), 4);
    }

    private static void as() {
        c.begin("promise 5: as");
        int[] above = {-1, 0, 0, 0, 1, 2, 0};
        PictureBlock x = new PictureBlock();
        x.mark(0, -1, 0, 0);
        for (int kind = 0; kind < 7; kind++) {
            x.become(0, 10 * kind + 9 - kind);
            for (int wanted = 0; wanted < 7; wanted++) {
                boolean is = wanted == 0 || wanted == kind || wanted == above[kind];
                c.due(kind + " as " + wanted, x.as(0, wanted), is ? 9 - kind : Checks.KIND);
            }
        }
        c.due("kind 7", x.as(0, 7), Checks.BEYOND);
        c.due("kind -1", x.as(0, -1), Checks.BEYOND);
        c.due("mark 1", x.as(1, 0), Checks.BEYOND);
    }

    private static void measure() {
        c.begin("promise 6: measure");
        PictureBlock x = new PictureBlock();
        x.mark(0, -1, 0, 3);
        c.due("measure(0, -20)", x.measure(0, -20), 3);
        c.due("measure(0, 20)", x.measure(0, 20), -20);
        c.due("measure(0, 21)", x.measure(0, 21), Checks.BEYOND);
        c.due("measure(0, -21)", x.measure(0, -21), Checks.BEYOND);
        c.due("measure(1, 0)", x.measure(1, 0), Checks.BEYOND);
        c.due("measure(-1, 0)", x.measure(-1, 0), Checks.BEYOND);
        c.due("told", x.markIs(0, 4), 20);
    }

    private static void on() {
        c.begin("promise 7: on");
        PictureBlock x = new PictureBlock();
        x.mark(0, -1, 0, 3);
        x.mark(0, -1, 1, 3);
        c.due("on(0, 1)", x.on(0, 1), 1);
        c.due("on(0, 0)", x.on(0, 0), 1);
        c.due("on(0, 0)", x.on(0, 0), 0);
        c.due("count(5)", x.count(5), 2);
        c.due("count(6)", x.count(6), 2);
        c.due("on(0, 1)", x.on(0, 1), 0);
        c.due("count(5)", x.count(5), 3);
        c.due("on(0, 2)", x.on(0, 2), Checks.BEYOND);
        c.due("on(0, -1)", x.on(0, -1), Checks.BEYOND);
        c.due("on(2, 0)", x.on(2, 0), Checks.BEYOND);
        c.due("on(-1, 0)", x.on(-1, 0), Checks.BEYOND);
    }

    private static void pictures() {
        c.begin("promise 8: pictures");
        PictureBlock x = new PictureBlock();
        c.due("pictures(0)", x.pictures(0), Checks.BEYOND);
        c.due("pictures(5)", x.pictures(5), Checks.BEYOND);
        c.due("pictures(4)", x.pictures(4), 2);
        c.due("pictures(1)", x.pictures(1), 4);
        c.due("pictures(4)", x.pictures(4), 1);
        x.mark(0, 2, 1, 0);
        x.on(0, 0);
        c.due("FROM one that wouldn't be", x.pictures(2), Checks.STATE);
        c.due("pictures(3)", x.pictures(3), 4);
        x.mark(0, -1, 2, 0);
        c.due("TO one that wouldn't be", x.pictures(2), Checks.STATE);
        c.due("BEYOND first", x.pictures(0), Checks.BEYOND);
        c.due("count(1)", x.count(1), 3);
    }

    private static void limit() {
        c.begin("promise 9: limit");
        PictureBlock x = new PictureBlock();
        c.due("limit(0)", x.limit(0), 20);
        c.due("limit(99)", x.limit(99), 0);
        c.due("limit(100)", x.limit(100), Checks.BEYOND);
        c.due("limit(-1)", x.limit(-1), Checks.BEYOND);
        c.due("count(3)", x.count(3), 99);
    }
}
