/** Promises 22 to 29: what would be. */
public final class ThoughtTests {
    private static final Checks c = new Checks();

    public static void main(String[] args) {
        needed();
        spine();
        then();
        soonest();
        limitFor();
        toldFor();
        odds();
        fits();
        c.finish();
    }

    /** Three that tell of one picture, of weight 2 each: 0, 1, 9. */
    private static PictureBlock three() {
        PictureBlock x = new PictureBlock();
        x.pictures(1);
        x.mark(0, -1, 0, 0);
        x.mark(0, -1, 0, 1);
        x.mark(0, -1, 0, 9);
        return x;
    }

    private static void needed() {
        c.begin("promise 22: needed");
        PictureBlock x = new PictureBlock();
        c.due("without marks", x.needed(), Checks.STATE);
        x.pictures(3);
        x.mark(0, -1, 0, 0);
        x.mark(0, 0, 1, 0);
        c.due("picture 2 isn't tied", x.needed(), Checks.STATE);
        x.mark(0, 2, 1, 0);
        c.due("each", x.needed(), 7);
        x.mark(0, -1, 1, 0);
        c.due("the one of picture 2", x.needed(), 4);
        x.on(0, 0);
        c.due("without mark 0", x.needed(), 14);
        x.mark(0, -1, 2, 0);
        c.due("the one of picture 0", x.needed(), 2);
        x.on(1, 0);
        c.due("picture 0 isn't tied", x.needed(), Checks.STATE);
    }

    private static void spine() {
        c.begin("promise 23: spine");
        PictureBlock x = new PictureBlock();
        c.due("without marks", x.spine(), Checks.STATE);
        x.mark(0, -1, 0, 0);
        x.mark(0, 0, 1, 0);
        x.mark(0, -1, 1, 0);
        c.due("of several the least", x.spine(), 3);
        x.become(2, 10);
        c.due("the heaviest, of these the least", x.spine(), 5);
        x.become(1, 10);
        c.due("the heaviest", x.spine(), 6);
        x.become(1, 40);
        c.due("an even round", x.spine(), 6);
        x.round(1);
        c.due("weights as all is now", x.spine(), 5);
        x.on(0, 0);
        c.due("just those that are on", x.spine(), 6);
        // Two to one picture would be heavier, but the other isn't tied then.
        x.on(0, 1);
        x.mark(60, -1, 1, 0);
        x.mark(60, 1, 0, 0);
        x.mark(60, -1, 1, 0);
        c.due("a way to each", x.spine(), 24);
        Checks.readText(x, 0, "k=5");
        c.due("by a text", x.spine(), 3);
        x.pictures(3);
        c.due("picture 2 isn't tied", x.spine(), Checks.STATE);
    }

    private static void then() {
        c.begin("promise 24: then");
        PictureBlock x = three();
        x.limit(5);
        // 0, 1, 9 agree on 10 / 3: doubts 20 / 3, 14 / 3, 34 / 3; then 0, 1 on 1 / 2.
        c.due("then(0, 0)", x.then(0, 0), 3);
        c.due("then(0, 1)", x.then(0, 1), 7);
        c.due("then(0, 2)", x.then(0, 2), 0);
        c.due("then(1, 0)", x.then(1, 0), 2);
        c.due("then(1, 1)", x.then(1, 1), 3);
        c.due("then(60, 2)", x.then(60, 2), 1);
        x.limit(0);
        c.due("then(1, 2)", x.then(1, 2), 1);
        c.due("then(2, 1)", x.then(2, 1), 2);
        c.due("then(60, 1)", x.then(60, 1), 2);
        c.due("then(60, 2)", x.then(60, 2), 2);
        c.due("only thought: ROUND", x.count(2), 0);
        c.due("only thought: ON", x.count(5), 7);
        x.round(9999);
        c.due("beyond 9999", x.then(60, 1), 2);
        c.due("then(61, 0)", x.then(61, 0), Checks.BEYOND);
        c.due("then(-1, 0)", x.then(-1, 0), Checks.BEYOND);
        c.due("then(0, 3)", x.then(0, 3), Checks.BEYOND);
        c.due("then(0, -1)", x.then(0, -1), Checks.BEYOND);
    }

    private static void soonest() {
        c.begin("promise 25: soonest");
        PictureBlock x = three();
        x.limit(0);
        c.due("soonest(2)", x.soonest(2), 1);
        c.due("soonest(0)", x.soonest(0), 2);
        c.due("soonest(1)", x.soonest(1), Checks.NONE);
        x.on(1, 0);
        c.due("it isn't on now", x.soonest(1), 0);
        c.due("soonest(3)", x.soonest(3), Checks.BEYOND);
        c.due("soonest(-1)", x.soonest(-1), Checks.BEYOND);
        late();
    }

    /** By a text one mark says more with each round, so that it is dropped later on. */
    private static void late() {
        PictureBlock x = new PictureBlock();
        x.pictures(1);
        x.mark(0, -1, 0, 0);
        x.mark(0, -1, 0, 1);
        Checks.readText(x, 1, "t*n*2");
        // 0 and 2n: doubts are 2n each, of which 14 is the largest, at round 7, 15, ..
        x.limit(13);
        c.due("behind the round of 7", x.soonest(0), 8);
        c.due("the other stays", x.soonest(1), Checks.NONE);
        x.round(9);
        c.due("behind the round of 15", x.soonest(0), 7);
        x.round(9998);
        c.due("9998 leaves 6, 9999 7", x.soonest(0), 2);
        x.round(9999);
        c.due("at 9999", x.soonest(0), 1);
        x.limit(14);
        c.due("not by 60", x.soonest(0), Checks.NONE);
        aLongTime();
    }

    /** What a mark from the air by m 9 reads is 0, 1, .. 9, and from round 10 on again. */
    private static void aLongTime() {
        PictureBlock x = new PictureBlock();
        x.pictures(1);
        x.mark(0, -1, 0, 0);
        x.mark(49, -1, 0, 0);
        Checks.readText(x, 0, "2");
        Checks.readText(x, 1, "s*(s=9)*(n=3)");
        x.limit(0);
        // Rounds 19, 59, .. are those that end on 9 and of which 8 leave 3.
        c.due("from 0 on", x.soonest(0), 20);
        x.round(9);
        c.due("from 9 on", x.soonest(0), 11);
        x.round(20);
        c.due("from 20 on", x.soonest(0), 40);
        c.due("it is behind 40 that it is gone", x.then(39, 1), 3);
        c.due("it is behind 40 that it is gone", x.then(40, 1), 2);
    }

    private static void limitFor() {
        c.begin("promise 26: limitFor");
        PictureBlock x = three();
        c.due("no round", x.limitFor(0), 0);
        c.due("34 / 3 isn't more than 12", x.limitFor(1), 12);
        c.due("limitFor(40)", x.limitFor(40), 12);
        x.measure(1, 0);
        c.due("doubts 6, 6, 12", x.limitFor(1), 12);
        c.due("limitFor(41)", x.limitFor(41), Checks.BEYOND);
        c.due("limitFor(-1)", x.limitFor(-1), Checks.BEYOND);
        c.due("LIMIT stays", x.count(3), 20);
        x.pictures(2);
        c.due("the block doesn't hold", x.limitFor(40), 0);
        x.pictures(1);
        Checks.readText(x, 1, "t*n*10");
        c.due("weight 2, miss 0", x.limitFor(1), 0);
        c.due("to round 1: 0, 0, 30", x.limitFor(2), 40);
        Checks.readText(x, 0, "4");
        c.due("to round 1: 4 times 20", x.limitFor(2), 80);
        x.measure(0, -9);
        x.measure(1, -9);
        c.due("-30, -30, 30: 4 times 40", x.limitFor(2), Checks.NONE);
        c.due("at round 0", x.limitFor(1), 0);
        x.round(9999);
        c.due("beyond 9999", x.limitFor(2), Checks.NONE);
        x.on(2, 0);
        c.due("-30, -30", x.limitFor(2), 0);
        largestLimit();
    }

    /** Three say -30 and one v, of weight 3 each: it misses three quarters of 30 + v. */
    private static void largestLimit() {
        PictureBlock x = new PictureBlock();
        x.pictures(1);
        for (int i = 0; i < 4; i++) {
            x.mark(10, -1, 0, i < 3 ? -20 : 14);
        }
        Checks.readText(x, 1, "t-(t<0)*10");
        c.due("99", x.limitFor(1), 99);
        x.measure(3, 15);
        c.due("more than 101", x.limitFor(1), Checks.NONE);
    }

    private static void toldFor() {
        c.begin("promise 27: toldFor");
        PictureBlock x = three();
        c.due("between 0 and 9, the least", x.toldFor(1), 4);
        c.due("between 0 and 1, the least", x.toldFor(2), 0);
        x.on(1, 0);
        c.due("of one that isn't on", x.toldFor(1), -20);
        c.due("as the other", x.toldFor(0), 9);
        x.on(2, 0);
        c.due("alone", x.toldFor(0), -20);
        c.due("told stays", x.markIs(0, 4), 0);
        c.due("toldFor(3)", x.toldFor(3), Checks.BEYOND);
        c.due("toldFor(-1)", x.toldFor(-1), Checks.BEYOND);
        x.on(0, 0);
        c.due("none is on", x.toldFor(0), Checks.STATE);
        c.due("BEYOND first", x.toldFor(3), Checks.BEYOND);
        x.on(0, 1);
        x.on(2, 1);
        x.become(0, 69);
        x.measure(2, -5);
        c.due("a shore of m 9 says 0 - 9 at least", x.toldFor(0), 4);
        x.measure(2, 20);
        c.due("a shore of m 9 says 20 - 9 at most", x.toldFor(0), 20);
        x.become(0, 50);
        x.measure(2, 7);
        c.due("a faint one says 6 or 8", x.toldFor(0), 6);
        x.measure(2, -7);
        c.due("a faint one says -6 or -8", x.toldFor(0), -9);
    }

    private static void odds() {
        c.begin("promise 28: odds");
        PictureBlock x = three();
        x.limit(12);
        x.on(1, 0);
        // 9 and v: doubts are |9 - v|, and the least is dropped, if that is more than 12.
        c.due("0 by 24 of 41", x.odds(0, 1, 0), 24);
        c.due("below", x.odds(0, 1, 1), 41);
        c.due("no round", x.odds(0, 0, 0), 1);
        c.due("1 by 1", x.odds(0, 0, 1), 1);
        c.due("mark 2 stays", x.odds(2, 40, 0), 1);
        c.due("1 by 1", x.odds(2, 40, 1), 1);
        c.due("of one that isn't on", x.odds(1, 0, 0), 0);
        c.due("0 by 1", x.odds(1, 0, 1), 1);
        c.due("of one that isn't on", x.odds(1, 40, 0), 0);
        c.due("told stays", x.markIs(0, 4), 0);
        c.due("odds(3, 0, 0)", x.odds(3, 0, 0), Checks.BEYOND);
        c.due("odds(-1, 0, 0)", x.odds(-1, 0, 0), Checks.BEYOND);
        c.due("odds(0, 41, 0)", x.odds(0, 41, 0), Checks.BEYOND);
        c.due("odds(0, -1, 0)", x.odds(0, -1, 0), Checks.BEYOND);
        c.due("odds(0, 0, 2)", x.odds(0, 0, 2), Checks.BEYOND);
        c.due("odds(0, 0, -1)", x.odds(0, 0, -1), Checks.BEYOND);
        Checks.readText(x, 1, "t+n*0-(n=3)*t");
        c.due("at round 3 all say 0", x.odds(0, 4, 0), 24);
        Checks.readText(x, 1, "t*(n=3)");
        c.due("at round 3 alone they tell", x.odds(0, 3, 0), 1);
        c.due("at round 3 alone they tell", x.odds(0, 4, 0), 24);
    }

    private static void fits() {
        c.begin("promise 29: fits");
        PictureBlock x = three();
        x.limit(5);
        c.due("it is missing", x.fits(0, 0, 0), Checks.NONE);
        c.due("sheet 4", x.fits(4, 0, 0), Checks.BEYOND);
        c.due("sheet -1", x.fits(-1, 0, 0), Checks.BEYOND);
        c.due("mark 3", x.fits(0, 3, 0), Checks.BEYOND);
        c.due("mark -1", x.fits(0, -1, 0), Checks.BEYOND);
        c.due("what 2", x.fits(0, 0, 2), Checks.BEYOND);
        c.due("what -1", x.fits(0, 0, -1), Checks.BEYOND);
        x.sheet(0, 32, 0);
        c.due("no numbers", x.fits(0, 2, 0), 127);
        c.due("no numbers", x.fits(0, 2, 1), 7);
        x.sheet(0, 32, 1);
        c.due("none is on", x.fits(0, 2, 0), 0);
        x.put(0, 0, 7);
        c.due("all are on now", x.fits(0, 2, 1), 7);
        x.sheet(0, 8, 3);
        x.put(0, 0, 7);
        x.put(0, 1, 3);
        x.put(0, 2, 3);
        // Of m 0 all kinds read about 9: so mark 2 is the one that is dropped, but for a shore
        // or a peak the others aren't less doubted.
        int fitting = 0;
        for (int kind = 0; kind < 7; kind++) {
            PictureBlock y = three();
            y.limit(5);
            y.become(2, 10 * kind);
            if (y.rounds(1) == 2 && y.count(5) == 3 && y.rounds(1) == 2) {
                fitting |= 1 << kind;
            }
        }
        c.due("fits(0, 2, 0)", x.fits(0, 2, 0), fitting);
        c.due("fits(0, 2, 1)", x.fits(0, 2, 1), Integer.bitCount(fitting));
        c.holds("a mark fits", (fitting & 1) == 1);
        c.due("kind stays", x.markIs(2, 0), 0);
        c.due("ROUND stays", x.count(2), 0);
        x.put(0, 2, 2);
        c.due("mark 0 isn't dropped", x.fits(0, 2, 0), 0);
        byItsNumber();
    }

    /** By m 9 a shore of 9 says 0, one of the air at round 9 18, the others about 9. */
    private static void byItsNumber() {
        PictureBlock x = new PictureBlock();
        x.pictures(1);
        x.mark(0, -1, 0, 9);
        x.mark(9, -1, 0, 9);
        x.round(9);
        x.limit(7);
        x.sheet(1, 16, 2);
        x.put(1, 0, 3);
        x.put(1, 1, 3);
        // Weights 2 and 2, 3, 3, 4, 1, 3, 4; misses together 0, 0, 0, 1, 9, 1, 9.
        c.due("but of the shore", x.fits(1, 1, 0), 63);
        x.limit(5);
        c.due("but of the air, too", x.fits(1, 1, 0), 47);
        c.due("how many", x.fits(1, 1, 1), 5);
        x.put(1, 1, 2);
        c.due("those two alone", x.fits(1, 1, 0), 80);
        x.put(1, 0, 0x10003);
        x.put(1, 1, 0x10002);
        c.due("of its lowest bits", x.fits(1, 1, 0), 80);
    }
}
