/** Promises 30 to 42: voices, sheets, images, what is told. */
public final class VoiceTests {
    private static final Checks c = new Checks();

    public static void main(String[] args) {
        voice();
        body();
        sheet();
        put();
        move();
        tells();
        judge();
        image();
        restore();
        tell();
        check();
        count();
        told();
        c.finish();
    }

    /** Mark 2 of m 5 is the one that speaks; the others stand ahead of it. */
    private static PictureBlock speaker(int kind) {
        PictureBlock x = new PictureBlock();
        x.mark(19, -1, 0, 0);
        x.mark(29, -1, 0, 0);
        x.mark(10 * kind + 5, -1, 0, 0);
        return x;
    }

    private static void voice() {
        c.begin("promise 30: voice");
        // k is 2, m is 5, x is 21: weighs, says, ties, parts of each kind.
        int[][] due = {
            {23, 46, 41, 7},
            {19, 38, 33, 7 + (1 + 2 - 4) * 2},
            {23, -46, -51, 7},
            {23, 46, (10 + 2) * 2 - 5, 7},
            {57, 114, 109 ^ 2, 7 + (1 + 2 - 4) * 3 * 2},
            {23, -48, -53, 7},
            {9, 23, 18, 7},
        };
        for (int kind = 0; kind < 7; kind++) {
            for (int voice = 0; voice < 4; voice++) {
                c.due(kind + " voice " + voice, speaker(kind).voice(2, voice, 21), due[kind][voice]);
            }
        }
        PictureBlock x = speaker(0);
        c.due("ints wrap", x.voice(2, 1, Integer.MAX_VALUE), 2 * (Integer.MAX_VALUE + 2));
        c.due("cut", x.voice(2, 3, -8), -2);
        x.become(2, 1);
        c.due("by -1", x.voice(2, 3, Integer.MIN_VALUE), Integer.MIN_VALUE);
        x.become(2, 2);
        c.due("by 0", x.voice(2, 3, 9), Checks.PARTED);
        x.become(2, 12);
        c.due("by 0 below", x.voice(2, 3, 9), Checks.PARTED);
        x.become(2, 42);
        c.due("by 0 below", x.voice(2, 3, 9), Checks.PARTED);
        c.due("told(6)", x.told(6), 3);
        c.due("voice 4", x.voice(2, 4, 0), Checks.BEYOND);
        c.due("voice -1", x.voice(2, -1, 0), Checks.BEYOND);
        c.due("mark 3", x.voice(3, 0, 0), Checks.BEYOND);
        c.due("mark -1", x.voice(-1, 0, 0), Checks.BEYOND);
        c.due("any number", x.voice(0, 0, -1000000001 + 4), -1000000001);
        c.due("no error was told", x.told(1), 4);
    }

    private static void body() {
        c.begin("promise 31: body");
        traced(0, 0, 10);
        traced(0, 1, 11, 10);
        traced(0, 2, 12, 11, 10);
        traced(0, 3, 13);
        traced(1, 0, 20, 10);
        traced(1, 3, 21, 13, 11, 20, 10);
        traced(2, 1, 30, 11, 10);
        traced(2, 2, 12, 30, 11, 10);
        traced(3, 2, 40, 12, 11, 10);
        traced(4, 0, 50, 20, 10);
        traced(4, 2, 51, 12, 11, 50, 20, 10);
        traced(4, 3, 21, 13, 11, 50, 20, 10);
        traced(5, 1, 60, 30, 11, 10);
        traced(5, 2, 12, 60, 30, 11, 10);
        traced(6, 0, 70);
        traced(6, 2, 12, 71, 11, 70);
        PictureBlock x = speaker(6);
        x.voice(2, 2, 0);
        c.due("a voice that isn't", x.voice(2, 4, 0), Checks.BEYOND);
        c.due("a mark that isn't", x.voice(3, 0, 0), Checks.BEYOND);
        c.due("no voice began", x.count(9), 4);
        c.due("no voice began", x.body(1), 71);
        x.voice(2, 0, 0);
        c.due("the latest", x.count(9), 1);
        c.due("the latest", x.body(0), 70);
        tracedWhenParted(0, 13);
        tracedWhenParted(1, 21, 13);
        tracedWhenParted(2, 13);
        tracedWhenParted(3, 13);
        tracedWhenParted(4, 21, 13);
        tracedWhenParted(5, 13);
        tracedWhenParted(6, 13);
    }

    /** The mark's m is its number: so parts ends with BODY 13, and none begins behind that. */
    private static void tracedWhenParted(int kind, int... bodies) {
        PictureBlock x = speaker(kind);
        x.voice(2, 2, 21);
        x.become(2, 10 * kind + 2);
        c.due(kind + " by 0", x.voice(2, 3, 21), Checks.PARTED);
        c.due(kind + " by 0, count(9)", x.count(9), bodies.length);
        for (int i = 0; i < bodies.length; i++) {
            c.due(kind + " by 0, body(" + i + ")", x.body(i), bodies[i]);
        }
        c.due(kind + " by 0, behind the last", x.body(bodies.length), Checks.NONE);
        x.voice(2, 0, 21);
        c.due(kind + " by 0, the next", x.body(0), new int[] {10, 20, 10, 10, 50, 10, 70}[kind]);
    }

    private static void traced(int kind, int voice, int... bodies) {
        PictureBlock x = speaker(kind);
        x.voice(2, voice, 21);
        c.due("count(9)", x.count(9), bodies.length);
        for (int i = 0; i < bodies.length; i++) {
            c.due(kind + " voice " + voice + " body(" + i + ")", x.body(i), bodies[i]);
        }
        c.due("behind the last", x.body(bodies.length), Checks.NONE);
        c.due("body(-1)", x.body(-1), Checks.NONE);
        c.due("body(MAX)", x.body(Integer.MAX_VALUE), Checks.NONE);
    }

    private static void sheet() {
        c.begin("promise 32: sheet");
        PictureBlock x = new PictureBlock();
        c.due("sheet 4", x.sheet(4, 8, -1), Checks.BEYOND);
        c.due("sheet -1", x.sheet(-1, 8, 1), Checks.BEYOND);
        c.due("bits 7", x.sheet(0, 7, -1), Checks.BEYOND);
        c.due("bits 64", x.sheet(0, 64, 1), Checks.BEYOND);
        c.due("bits -8", x.sheet(0, -8, 1), Checks.BEYOND);
        c.due("n -1", x.sheet(0, 8, -1), Checks.STATE);
        c.due("n MIN", x.sheet(0, 32, Integer.MIN_VALUE), Checks.STATE);
        c.due("n 25", x.sheet(0, 8, 25), Checks.BEYOND);
        c.due("it is missing", x.put(0, 0, 0), Checks.NONE);
        c.due("n 24", x.sheet(0, 8, 24), 1);
        c.due("put(0, 23, 5)", x.put(0, 23, 5), 1);
        c.due("n 0", x.sheet(3, 16, 0), 1);
        c.due("no number", x.put(3, 0, 0), Checks.BEYOND);
        c.due("anew", x.sheet(0, 16, 24), 1);
        x.sheet(1, 16, 1);
        x.put(1, 0, 9);
        x.move(0, 23, 1, 0, 1);
        x.mark(0, -1, 0, 0);
        c.due("all 0", x.judge(1), 1);
        c.due("an error changes nothing", x.sheet(0, 16, 25), Checks.BEYOND);
        c.due("it stays", x.put(0, 23, 0), 1);
        c.due("missing, n doesn't matter", x.sheet(0, 0, -1), 1);
        c.due("it is missing", x.put(0, 0, 0), Checks.NONE);
        c.due("missing, n doesn't matter", x.sheet(0, 0, 99), 1);
    }

    private static void put() {
        c.begin("promise 33: put");
        PictureBlock x = new PictureBlock();
        c.due("sheet 4", x.put(4, 0, 0), Checks.BEYOND);
        c.due("sheet -1", x.put(-1, 0, 0), Checks.BEYOND);
        c.due("it is missing", x.put(0, 99, 0), Checks.NONE);
        x.mark(0, -1, 0, 5);
        int[] bits = {8, 16, 32};
        for (int b : bits) {
            x.sheet(0, b, 2);
            c.due("i 2", x.put(0, 2, 0), Checks.BEYOND);
            c.due("i -1", x.put(0, -1, 0), Checks.BEYOND);
            c.due("put", x.put(0, 0, b == 32 ? 5 : (7 << b) + 5), 1);
            c.due("its lowest bits", x.judge(0), 1);
            c.due("put", x.put(0, 0, b == 32 ? -20 : (7 << b) - 20), 1);
            c.due("its lowest bits, with their sign", x.tells(0), 1);
            c.due("its lowest bits, with their sign", x.measure(0, 5), -20);
            x.put(0, 0, 5 + (1 << (b - 1)));
            c.due("its highest bit", x.judge(0), 0);
        }
    }

    private static void move() {
        c.begin("promise 34: move");
        PictureBlock x = new PictureBlock();
        for (int i = 0; i < 8; i++) {
            x.mark(0, -1, 0, 0);
        }
        c.due("sheet 4", x.move(4, 0, 0, 0, 0), Checks.BEYOND);
        c.due("other -1", x.move(0, 0, -1, 0, 0), Checks.BEYOND);
        c.due("both are missing", x.move(0, 0, 1, 0, -1), Checks.NONE);
        x.sheet(0, 16, 8);
        c.due("one is missing", x.move(0, 0, 1, 0, -1), Checks.NONE);
        c.due("one is missing", x.move(1, 0, 0, 0, -1), Checks.NONE);
        x.sheet(1, 8, 4);
        c.due("of unlike bits", x.move(0, 0, 1, 0, -1), Checks.KIND);
        x.sheet(1, 16, 4);
        int[][] beyond = {
            {0, 0, -1}, {-1, 0, 1}, {0, -1, 1}, {0, 0, 5}, {5, 0, 4}, {0, 1, 4}, {9, 0, 0}, {0, 5, 0},
            {Integer.MAX_VALUE, 0, 1}, {0, Integer.MAX_VALUE, 1}, {1, 0, Integer.MAX_VALUE},
            {Integer.MIN_VALUE, 0, 1}, {1, 1, Integer.MIN_VALUE},
        };
        for (int[] b : beyond) {
            c.due("beyond", x.move(0, b[0], 1, b[1], b[2]), Checks.BEYOND);
        }
        c.due("none, behind the last", x.move(0, 8, 1, 4, 0), 0);
        for (int i = 0; i < 8; i++) {
            x.put(0, i, i + 1);
        }
        c.due("move up", x.move(0, 0, 0, 2, 6), 6);
        told(x, 0, 1, 2, 1, 2, 3, 4, 5, 6);
        c.due("move down", x.move(0, 3, 0, 1, 4), 4);
        told(x, 0, 1, 2, 3, 4, 5, 4, 5, 6);
        c.due("to another", x.move(0, 5, 1, 1, 3), 3);
        told(x, 1, 0, 4, 5, 6);
    }

    private static void told(PictureBlock x, int sheet, int... due) {
        c.due("tells(" + sheet + ")", x.tells(sheet), due.length);
        for (int i = 0; i < due.length; i++) {
            c.due("number " + i, x.markIs(i, 4), due[i]);
        }
    }

    private static void tells() {
        c.begin("promise 35: tells");
        PictureBlock x = new PictureBlock();
        c.due("sheet 4", x.tells(4), Checks.BEYOND);
        c.due("sheet -1", x.tells(-1), Checks.BEYOND);
        c.due("it is missing", x.tells(0), Checks.NONE);
        x.sheet(0, 8, 3);
        c.due("no mark", x.tells(0), 0);
        x.mark(0, -1, 0, 9);
        x.mark(0, -1, 0, 9);
        x.put(0, 0, -20);
        x.put(0, 1, 20);
        c.due("two marks", x.tells(0), 2);
        c.due("told", x.markIs(0, 4), -20);
        c.due("told", x.markIs(1, 4), 20);
        x.mark(0, -1, 0, 9);
        x.mark(0, -1, 0, 9);
        c.due("three numbers", x.tells(0), 3);
        c.due("told", x.markIs(2, 4), 0);
        c.due("told", x.markIs(3, 4), 9);
        x.put(0, 0, 1);
        x.put(0, 1, 21);
        x.put(0, 2, 2);
        c.due("up to 21", x.tells(0), 1);
        c.due("told", x.markIs(0, 4), 1);
        c.due("told", x.markIs(1, 4), 20);
        c.due("told", x.markIs(2, 4), 0);
        x.put(0, 0, -21);
        c.due("up to -21", x.tells(0), 0);
        c.due("no error", x.told(1), 2);
    }

    private static void judge() {
        c.begin("promise 36: judge");
        PictureBlock x = new PictureBlock();
        c.due("sheet 4", x.judge(4), Checks.BEYOND);
        c.due("sheet -1", x.judge(-1), Checks.BEYOND);
        c.due("it is missing", x.judge(0), Checks.NONE);
        x.sheet(0, 32, 3);
        c.due("no mark", x.judge(0), 0);
        x.mark(60, -1, 0, 4);
        x.mark(0, -1, 0, -5);
        x.put(0, 0, 4);
        c.due("the first", x.judge(0), 1);
        x.put(0, 1, -5);
        c.due("both", x.judge(0), 2);
        x.mark(0, -1, 0, 0);
        c.due("three", x.judge(0), 3);
        x.mark(0, -1, 0, 0);
        c.due("three numbers", x.judge(0), 3);
        x.put(0, 0, 5);
        c.due("the first is wrong", x.judge(0), 0);
        c.due("told stays", x.markIs(0, 4), 4);
    }

    private static void image() {
        c.begin("promise 37: image");
        PictureBlock x = new PictureBlock();
        c.due("image()", x.image(), 1);
        x.round(7);
        c.due("image()", x.image(), 2);
        c.due("restore()", x.restore(), 7);
        c.due("in place of one ahead, and counted on", x.image(), 3);
    }

    private static void restore() {
        c.begin("promise 38: restore");
        PictureBlock x = new PictureBlock();
        c.due("there is none", x.restore(), Checks.NONE);
        x.pictures(3);
        x.mark(69, -1, 2, 11);
        x.mark(12, 0, 1, -3);
        x.on(1, 0);
        x.limit(33);
        x.round(44);
        x.seed(55);
        Checks.readText(x, 0, "w-1");
        Checks.readText(x, 1, "s-n");
        x.feed(0x7777L, 2);
        x.tell(66);
        x.image();
        spoil(x);
        c.due("restore()", x.restore(), 44);
        int[] counts = {2, 3, 44, 33, 0, 1, 4, 2, 1, 2, 55};
        for (int what = 0; what < counts.length; what++) {
            c.due("count(" + what + ")", x.count(what), counts[what]);
        }
        int[][] is = {{6, 9, -1, 2, 11, 1, 3, 2 - 4}, {1, 2, 0, 1, -3, 0, 2, -7}};
        for (int mark = 0; mark < 2; mark++) {
            for (int what = 0; what < 8; what++) {
                c.due("markIs", x.markIs(mark, what), is[mark][what]);
            }
        }
        c.due("the tape", x.text(0), -11);
        c.due("what waits", x.check(), 1);
        c.due("the sheet isn't kept", x.put(0, 0, 0), 1);
        c.due("nor the trace", x.body(0), 11);
        c.due("nor what told() tells", x.told(2), 1);
        c.due("it stays", x.restore(), 44);
        c.due("the tape", x.count(7), 2);
        c.due("how often it was done", x.image(), 2);
    }

    private static void spoil(PictureBlock x) {
        x.mark(0, 1, 2, 0);
        x.become(0, 0);
        x.become(1, 0);
        x.measure(0, 0);
        x.measure(1, 0);
        x.on(0, 0);
        x.on(1, 1);
        x.pictures(4);
        x.limit(1);
        x.loose(9);
        x.round(2);
        x.untell(0);
        x.text(1);
        x.feed(0x31L, 1);
        x.check();
        x.tell(5);
        x.tell(6);
        x.sheet(0, 8, 1);
        x.voice(0, 1, 1);
    }

    private static void tell() {
        c.begin("promise 39: tell");
        PictureBlock x = new PictureBlock();
        for (int i = 1; i <= 24; i++) {
            c.due("tell", x.tell(-i), i);
        }
        c.due("24 wait", x.tell(0), Checks.FULL);
        c.due("24 wait", x.count(8), 24);
        x.check();
        c.due("none waits", x.tell(0), 1);
    }

    private static void check() {
        c.begin("promise 40: check");
        PictureBlock x = new PictureBlock();
        c.due("none waits", x.check(), 0);
        x.mark(32, -1, 0, 4);
        x.mark(0, -1, 0, -5);
        x.tell(5);
        c.due("what it says", x.check(), 0);
        c.due("none waits", x.count(8), 0);
        x.tell(5);
        x.tell(-5);
        c.due("both", x.check(), 0);
        x.tell(5);
        x.tell(5);
        x.tell(5);
        c.due("the second", x.check(), 2);
        c.due("none waits", x.check(), 0);
        x.tell(5);
        x.tell(-5);
        x.tell(0);
        c.due("no mark", x.check(), 3);
        x.tell(4);
        c.due("what is told isn't what it says", x.check(), 1);
    }

    private static void count() {
        c.begin("promise 41: count");
        PictureBlock x = new PictureBlock();
        x.pictures(4);
        x.mark(0, -1, 1, 0);
        x.mark(0, 3, 1, 9);
        x.mark(0, 0, 2, 0);
        c.due("count(0)", x.count(0), 3);
        c.due("count(1)", x.count(1), 4);
        c.due("count(5)", x.count(5), 7);
        c.due("1, and 3 by 1", x.count(6), 10);
        x.mark(0, 2, 3, 0);
        c.due("all, the last by three others", x.count(6), 15);
        x.on(1, 0);
        c.due("1 alone", x.count(6), 2);
        c.due("count(5)", x.count(5), 13);
        x.round(17);
        x.limit(18);
        c.due("count(2)", x.count(2), 17);
        c.due("count(3)", x.count(3), 18);
        x.pictures(4);
        x.mark(0, -1, 1, 20);
        x.mark(0, -1, 0, 0);
        x.limit(3);
        x.rounds(1);
        c.due("count(4)", x.count(4), 1);
        x.feed(0, 3);
        c.due("count(7)", x.count(7), 3);
        x.tell(1);
        c.due("count(8)", x.count(8), 1);
        x.voice(0, 1, 1);
        c.due("count(9)", x.count(9), 2);
        x.seed(-1000000001);
        c.due("count(10), no error", x.count(10), -1000000001);
        c.due("told(1)", x.told(1), 0);
        c.due("count(11)", x.count(11), Checks.BEYOND);
        c.due("count(-1)", x.count(-1), Checks.BEYOND);
    }

    private static void told() {
        c.begin("promise 42: told");
        PictureBlock x = new PictureBlock();
        c.due("told(0)", x.told(0), Checks.BEYOND);
        c.due("told(7)", x.told(7), Checks.BEYOND);
        c.due("told(MIN)", x.told(Integer.MIN_VALUE), Checks.BEYOND);
        c.due("counted, too", x.told(1), 3);
        x.put(0, 0, 0);
        x.body(0);
        c.due("NONE", x.told(2), 2);
        x.place(0, 0);
        x.needed();
        x.sum(1);
        c.due("STATE", x.told(3), 3);
        for (int i = 0; i < 12; i++) {
            x.mark(0, -1, 0, 0);
        }
        c.due("FULL", x.told(4), 4);
        x.as(0, 1);
        c.due("KIND", x.told(5), 1);
        x.voice(0, 3, 0);
        c.due("PARTED", x.told(6), 1);
        x.text(0);
        c.due("a FAULT is no error", x.told(1), 3);
        x.image();
        x.told(9);
        x.restore();
        c.due("not in the image", x.told(1), 4);
    }
}
