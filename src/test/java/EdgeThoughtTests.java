/** Boundaries: term 3, what would be, promises 22 to 29. Each test quotes its sentence. */
public final class EdgeThoughtTests {
    private static final long BEYOND = Edges.BEYOND;
    private static final long NONE = Edges.NONE;
    private static final long STATE = Edges.STATE;
    private static final Edges e = new Edges();

    public static void main(String[] args) {
        beyondRounds();
        onlyThought();
        needed();
        spine();
        then();
        soonest();
        limitFor();
        limitForNone();
        toldFor();
        odds();
        oddsFractions();
        fits();
        fitsRefused();
        e.finish();
    }

    /**
     * One mark from the air tells 8 at each 72nd ROUND (71, 143, .. 10007, ..), else all tell 0: so it
     * is then that mark 0 is dropped. LIMIT is 0, each WEIGHT 2.
     */
    private static void once(int round) {
        e.anew();
        e.does("pictures", 1);
        e.does("mark", 0, -1, 0, 0);
        e.does("mark", 48, -1, 0, 0);
        e.reads(0, "2");
        e.reads(1, "s*(s=8)*(n=7)");
        e.does("limit", 0);
        e.does("round", round);
    }

    private static void beyondRounds() {
        e.begin("terms 3", "(All this is only thought; ROUND beyond 9999, too.) THEN");
        once(9999);
        e.due(3, "then", 8, 1);
        e.due(2, "then", 9, 1);
        e.due(1, "then", 9, 2);
        e.due(1, "then", 60, 0);

        e.begin("terms 3", "(.. ROUND beyond 9999, too.) SOONEST");
        once(9999);
        e.due(9, "soonest", 0);
        once(9998);
        e.due(10, "soonest", 0);

        e.begin("terms 3", "(.. ROUND beyond 9999, too.) LIMIT FOR n");
        once(9999);
        e.due(0, "limitFor", 8);
        e.due(8, "limitFor", 9);

        e.begin("terms 3", "(.. ROUND beyond 9999, too.) ODDS");
        once(9999);
        e.due(40, "odds", 0, 8, 0);
        e.due(0, "odds", 0, 9, 0);

        e.begin("terms 3", "(.. ROUND beyond 9999, too.) FITS");
        once(9999);
        e.does("sheet", 0, 8, 10);
        for (int i = 0; i < 10; i++) {
            e.does("put", 0, i, i < 9 ? 3 : 2);
        }
        // Those ON as told: of all KINDS only one from the air tells anything at 10007.
        e.due(16, "fits", 0, 1, 0);
        e.does("put", 0, 9, 3);
        e.due(127 - 16, "fits", 0, 1, 0);

        e.begin("terms 3", "(.. ROUND beyond 9999, too.) n the rest of ROUND by 8 of 10000 is 0; AIR: ROUND 10000 is even");
        e.does("pictures", 1);
        e.does("mark", 0, -1, 0, 0);
        e.does("mark", 40, -1, 0, 12);
        e.does("limit", 99);
        e.does("round", 9999);
        // Of weights 2 and 1 both doubts are 8, of 2 and 3 they are 72 / 5.
        e.due(8, "limitFor", 1);
        e.due(15, "limitFor", 2);
        e.reads(1, "t*n");
        e.does("measure", 1, 1);
        e.due(5, "limitFor", 1);
        e.due(5, "limitFor", 2);
        e.reads(1, "t*(n=0)");
        e.due(0, "limitFor", 1);
        e.due(2, "limitFor", 2);
    }

    private static void onlyThought() {
        e.begin("terms 3", "(All this is only thought ..)");
        EdgeStates.full(e);
        Watch due = watched();
        for (int mark = 0; mark < 8; mark++) {
            e.leads("soonest", mark);
            e.leads("toldFor", mark);
            e.leads("odds", mark, 9, 0);
            e.leads("fits", 1, mark, 0);
        }
        e.leads("needed");
        e.leads("spine");
        e.leads("then", 60, 2);
        e.leads("limitFor", 40);
        Watch got = watched();
        int told = 0;
        for (int i = 0; i < due.calls.size(); i++) {
            if (due.calls.get(i).startsWith("told(")) {
                told++;
            } else {
                e.sees(due.calls.get(i), got.answers.get(i), due.answers.get(i));
            }
        }
        e.sees("rows of told()", told, 12);
    }

    private static Watch watched() {
        return new Watch(e.another());
    }

    private static void needed() {
        e.begin("promise 22", "NEEDED, as a set. (those MARKS that are ON without each of which alone THE BLOCK doesn't HOLD)");
        e.does("pictures", 4);
        for (int i = 0; i < 4; i++) {
            e.does("mark", 0, i - 1, i, 0);
        }
        e.due(15, "needed");
        e.does("mark", 0, -1, 3, 0);
        e.due(0, "needed");
        e.does("on", 1, 0);
        e.due(29, "needed");
        // Of two that are alike neither is.
        e.does("mark", 0, -1, 3, 0);
        e.due(13, "needed");
        EdgeStates.full(e);
        for (int mark = 0; mark < 8; mark++) {
            e.does("on", mark, mark == 1 || mark == 2 || mark == 3 || mark == 7 ? 1 : 0);
        }
        e.due(142, "needed");

        e.begin("promise 22", "STATE: THE BLOCK doesn't HOLD.");
        e.refused(STATE, "needed");
        EdgeStates.apart(e);
        e.refused(STATE, "needed");
    }

    private static void spine() {
        e.begin("terms 3", "SPINE: of the sets of fewest MARKS that are ON by which each PICTURE is TIED that with most WEIGHT together");
        e.does("pictures", 1);
        for (int i = 0; i < 8; i++) {
            e.does("mark", i == 7 ? 60 : 10, -1, 0, 0);
        }
        e.due(128, "spine");
        e.does("on", 7, 0);
        e.due(1, "spine");
        e.anew();
        e.does("pictures", 4);
        // The four heaviest leave PICTURE 3 without a way.
        int[][] ways = {{0, -1, 3}, {60, -1, 0}, {60, 0, 1}, {60, 1, 2}, {60, 2, 0}, {0, 3, 2}};
        for (int[] way : ways) {
            e.does("mark", way[0], way[1], way[2], 0);
        }
        e.due(1 + 2 + 4 + 8, "spine");
        // Behind a heavier way to it, that one is the fewest, too.
        e.does("become", 5, 10);
        e.due(32 + 2 + 4 + 8, "spine");

        // The lightest that can be: one of WEIGHT 1.
        e.anew();
        e.does("pictures", 1);
        e.reads(0, "1");
        e.does("mark", 0, -1, 0, 0);
        e.due(1, "spine");

        e.begin("terms 3", "of several the least");
        e.does("mark", 0, -1, 0, 0);
        e.does("mark", 0, -1, 1, 0);
        e.does("mark", 0, 0, 1, 0);
        e.due(3, "spine");
        e.does("on", 0, 0);
        e.due(6, "spine");
        e.does("on", 0, 1);
        e.does("on", 1, 0);
        e.due(5, "spine");

        e.begin("terms 3", "(WEIGHTS as all is now)");
        e.does("pictures", 1);
        e.does("mark", 0, -1, 0, 0);
        e.does("mark", 40, -1, 0, 0);
        e.due(2, "spine");
        e.does("round", 1);
        e.due(1, "spine");
        e.does("round", 9998);
        e.due(2, "spine");
        // A STAR counts all MARKS that are ON, not those of the set alone.
        e.does("become", 1, 20);
        e.due(2, "spine");
        e.does("mark", 0, -1, 0, 0);
        e.due(2, "spine");
        e.does("mark", 0, -1, 0, 0);
        e.due(1, "spine");

        e.begin("promise 23", "STATE: THE BLOCK doesn't HOLD.");
        e.refused(STATE, "spine");
        EdgeStates.apart(e);
        e.refused(STATE, "spine");
    }

    private static void then() {
        e.begin("promise 24", "THEN, for n (0 .. 60): what 0 how many are ON, 1 which, 2 DROPPED. BEYOND.");
        once(12);
        e.due(2, "then", 0, 0);
        e.due(3, "then", 0, 1);
        e.due(0, "then", 0, 2);
        e.due(3, "then", 59, 1);
        e.due(2, "then", 60, 1);
        e.due(1, "then", 60, 0);
        e.due(1, "then", 60, 2);
        e.does("round", 11);
        e.due(3, "then", 60, 1);
        e.does("round", 71);
        e.due(3, "then", 0, 1);
        e.due(2, "then", 1, 1);
        EdgeStates.some(e);
        e.beyond("then", Edges.with(0, 0), 0, -1, 61);
        e.beyond("then", Edges.with(60, 0), 1, -1, 3);
        EdgeStates.apart(e);
        e.due(2, "then", 60, 0);
        e.due(12, "then", 60, 1);
    }

    private static void soonest() {
        e.begin("terms 3", "SOONEST: behind how many ROUNDS (0 .. 60) a mark is ON no more first.");
        once(12);
        e.due(60, "soonest", 0);
        once(70);
        e.due(2, "soonest", 0);
        once(71);
        e.due(1, "soonest", 0);
        e.does("on", 0, 0);
        e.due(0, "soonest", 0);

        e.begin("promise 25", "NONE: not by 60.");
        once(11);
        e.refused(NONE, "soonest", 0);
        e.refused(NONE, "soonest", 1);
        once(12);
        e.refused(NONE, "soonest", 1);
        EdgeStates.apart(e);
        e.refused(NONE, "soonest", 2);

        e.begin("promise 25", "SOONEST. BEYOND.");
        e.refused(BEYOND, "soonest", 0);
        EdgeStates.some(e);
        e.does("on", 3, 0);
        e.due(0, "soonest", 3);
        e.beyond("soonest", Edges.with(0), 0, -1, 4);
        EdgeStates.full(e);
        e.beyond("soonest", Edges.with(0), 0, -1, 8);
    }

    private static void limitFor() {
        e.begin("terms 3", "LIMIT FOR n: the least LIMIT now by which those that are ON now all are n ROUNDS on.");
        EdgeStates.three(e, 0, 1, 9);
        // 34 / 3 is more than 11, and not more than 12.
        e.due(12, "limitFor", 1);
        e.does("limit", 12);
        e.due(3, "rounds", 1);
        e.due(12, "limitFor", 1);
        e.does("limit", 11);
        e.due(2, "rounds", 1);
        EdgeStates.three(e, 0, 0, 9);
        e.due(12, "limitFor", 1);
        EdgeStates.three(e, 0, 0, 0);
        e.due(0, "limitFor", 40);
        EdgeStates.three(e, 0, 0, 9);
        e.does("on", 2, 0);
        e.due(0, "limitFor", 40);
        EdgeStates.three(e, 0, 0, 9);
        e.does("pictures", 2);
        e.due(0, "limitFor", 40);

        e.begin("promise 26", "LIMIT FOR, for n (0 .. 40). BEYOND.");
        once(32);
        e.due(0, "limitFor", 0);
        e.due(0, "limitFor", 39);
        e.due(8, "limitFor", 40);
        once(31);
        e.due(0, "limitFor", 40);
        once(71);
        e.due(0, "limitFor", 0);
        e.due(8, "limitFor", 1);
        EdgeStates.some(e);
        e.beyond("limitFor", Edges.with(0), 0, -1, 41);
        EdgeStates.apart(e);
        e.beyond("limitFor", Edges.with(0), 0, -1, 41);
    }

    private static void limitForNone() {
        e.begin("promise 26", "NONE: by none. (LIMIT 0 .. 99)");
        EdgeStates.four(e, 14);
        e.due(99, "limitFor", 1);
        e.due(0, "limitFor", 0);
        EdgeStates.four(e, 13);
        e.due(97, "limitFor", 1);
        EdgeStates.four(e, 15);
        e.refused(NONE, "limitFor", 1);
        e.refused(NONE, "limitFor", 40);
        e.due(0, "limitFor", 0);
        // Of weights 4 and 4, 4: 32 / 3 times what one says more than two: 98.67 of 37, 101.33 of 38.
        two(37);
        e.due(99, "limitFor", 1);
        two(38);
        e.refused(NONE, "limitFor", 1);

        e.begin("promise 26", "BEYOND .. NONE, in this order");
        EdgeStates.four(e, 15);
        e.beyond("limitFor", Edges.with(1), 0, -1, 41);
    }

    /** Two of weight 4 say -20, and one as much more as is told: it misses two thirds of that. */
    private static void two(int more) {
        e.anew();
        e.does("pictures", 1);
        for (int i = 0; i < 3; i++) {
            e.does("mark", 60, -1, 0, i < 2 ? -20 : more - 20);
        }
        e.reads(1, "t");
    }

    private static void toldFor() {
        e.begin("terms 3", "TOLD FOR a mark: the TOLD by which SUM is least now (-20 .. 20)");
        e.does("mark", 0, -1, 0, 20);
        e.does("mark", 0, 0, 1, 20);
        e.does("mark", 0, -1, 1, 0);
        // 40 would be best, and so is the most that can be told; 39 / 2 of 19 and 20 alike.
        e.due(20, "toldFor", 2);
        e.does("measure", 0, -20);
        e.does("measure", 1, -20);
        e.due(-20, "toldFor", 2);
        e.does("measure", 1, 20);
        e.due(0, "toldFor", 2);
        e.does("measure", 0, 19);
        e.does("measure", 1, 0);
        e.due(19, "toldFor", 2);
        e.does("measure", 0, -19);
        e.due(-19, "toldFor", 2);

        e.begin("terms 3", "TOLD FOR ..; of several the least");
        e.does("pictures", 1);
        e.does("mark", 0, -1, 0, 0);
        // Alone, it agrees with itself by each TOLD; so does one that isn't ON.
        e.due(-20, "toldFor", 0);
        e.does("mark", 0, -1, 0, 7);
        e.does("mark", 0, -1, 0, 8);
        e.due(7, "toldFor", 0);
        e.does("on", 0, 0);
        e.due(-20, "toldFor", 0);
        e.does("on", 0, 1);
        e.does("measure", 1, -8);
        e.does("measure", 2, -7);
        e.due(-8, "toldFor", 0);
        e.does("become", 0, 50);
        e.does("measure", 1, 6);
        e.does("measure", 2, 6);
        e.due(6, "toldFor", 0);
        e.does("measure", 1, -6);
        e.does("measure", 2, -6);
        e.due(-7, "toldFor", 0);
        e.does("become", 0, 60);
        e.due(-20, "toldFor", 0);

        e.begin("promise 27", "TOLD FOR. BEYOND.");
        EdgeStates.some(e);
        e.does("toldFor", 3);
        e.beyond("toldFor", Edges.with(0), 0, -1, 4);

        e.begin("promise 27", "STATE: THE BLOCK doesn't HOLD. (BEYOND .. STATE, in this order)");
        e.refused(BEYOND, "toldFor", 0);
        EdgeStates.apart(e);
        e.refused(STATE, "toldFor", 0);
        e.refused(STATE, "toldFor", 3);
        e.beyond("toldFor", Edges.with(0), 0, -1, 4);
    }

    private static void odds() {
        e.begin("promise 28", "ODDS, for n (0 .. 40): part 0 above, 1 below the line. BEYOND.");
        once(32);
        // By a TOLD of 8 it is dropped at ROUND 39, by all others at 71.
        e.due(1, "odds", 0, 0, 0);
        e.due(1, "odds", 0, 7, 0);
        e.due(40, "odds", 0, 8, 0);
        e.due(40, "odds", 0, 39, 0);
        e.due(41, "odds", 0, 39, 1);
        e.due(0, "odds", 0, 40, 0);
        once(31);
        e.due(40, "odds", 0, 40, 0);
        EdgeStates.some(e);
        e.does("odds", 3, 40, 1);
        e.beyond("odds", Edges.with(0, 0, 0), 0, -1, 4);
        e.beyond("odds", Edges.with(0, 0, 0), 1, -1, 41);
        e.beyond("odds", Edges.with(0, 0, 0), 2, -1, 2);
        EdgeStates.apart(e);
        e.beyond("odds", Edges.with(0, 0, 0), 0, -1, 4);
    }

    private static void oddsFractions() {
        e.begin("terms 3", "ODDS .. a fraction in lowest terms (0 is 0 by 1)");
        once(71);
        // By a TOLD of 8 it agrees at 71 with the one from the air, and is dropped by all others.
        e.due(1, "odds", 0, 1, 0);
        e.due(41, "odds", 0, 1, 1);
        e.due(1, "odds", 0, 0, 0);
        e.due(1, "odds", 0, 0, 1);
        e.does("on", 0, 0);
        for (int n = 0; n <= 40; n += 40) {
            e.due(0, "odds", 0, n, 0);
            e.due(1, "odds", 0, n, 1);
        }
        e.due(1, "odds", 1, 40, 0);
        e.due(1, "odds", 1, 40, 1);

        e.begin("terms 3", "ODDS of a mark by n: that by a TOLD of it now (-20 .. 20), each as likely");
        e.does("pictures", 1);
        e.does("mark", 0, -1, 0, 0);
        e.does("mark", 0, -1, 0, 20);
        // Doubts are 20 - v: more than LIMIT by each v below 20 - LIMIT, of -20 .. 20.
        e.does("limit", 39);
        e.due(40, "odds", 0, 1, 0);
        e.does("limit", 40);
        e.due(1, "odds", 0, 1, 0);
        e.due(1, "odds", 0, 1, 1);
        e.does("limit", 0);
        e.due(1, "odds", 0, 1, 0);
        e.due(41, "odds", 0, 1, 1);
        e.does("measure", 1, -20);
        e.due(1, "odds", 0, 1, 0);
        e.does("limit", 39);
        e.due(40, "odds", 0, 1, 0);
        e.does("limit", 40);
        e.due(1, "odds", 0, 1, 1);
    }

    private static void fits() {
        e.begin("terms 3", "FITS: a SHEET tells MARKS that are ON, as sets, at this ROUND and those behind it");
        once(71);
        for (int bits = 8; bits <= 32; bits *= 2) {
            e.does("sheet", 0, bits, 2);
            e.does("put", 0, 0, 3);
            e.does("put", 0, 1, 2);
            e.due(16, "fits", 0, 1, 0);
            e.due(1, "fits", 0, 1, 1);
            e.does("put", 0, 0, 2);
            e.due(0, "fits", 0, 1, 0);
            e.due(0, "fits", 0, 1, 1);
        }
        // This ROUND alone: the KIND doesn't matter. None ON is a set, too.
        e.does("sheet", 1, 8, 1);
        e.does("put", 1, 0, 3);
        e.due(127, "fits", 1, 0, 0);
        e.due(7, "fits", 1, 0, 1);
        e.does("on", 0, 0);
        e.does("on", 1, 0);
        e.due(0, "fits", 1, 0, 0);
        e.does("put", 1, 0, 0);
        e.due(127, "fits", 1, 0, 0);

        e.begin("terms 3", "FITS, by a SHEET without numbers, and by one of 24 (the most)");
        once(48);
        e.does("sheet", 0, 16, 0);
        e.due(127, "fits", 0, 1, 0);
        e.due(7, "fits", 0, 1, 1);
        e.does("sheet", 0, 16, 24);
        for (int i = 0; i < 24; i++) {
            e.does("put", 0, i, 3);
        }
        // Number 23 is 23 ROUNDS on, ahead of ROUND 71; of 49 on it is behind it.
        e.due(127, "fits", 0, 1, 0);
        e.does("round", 49);
        e.due(111, "fits", 0, 1, 0);
        e.does("put", 0, 23, 2);
        e.due(16, "fits", 0, 1, 0);

        e.begin("terms 3", "of which KINDS (with its m) a mark may be");
        once(71);
        e.does("sheet", 0, 8, 2);
        e.does("put", 0, 0, 3);
        e.does("put", 0, 1, 2);
        e.does("become", 1, 8);
        e.due(16, "fits", 0, 1, 0);
        e.does("become", 1, 7);
        e.due(0, "fits", 0, 1, 0);
        // Of 0 by m 9 a PEAK says -1, AIR 1, a SHORE -9; by m 1 AIR 1, a SHORE -1; by m 0 a PEAK -1.
        e.does("untell", 1);
        e.does("become", 1, 69);
        e.due(8 + 16 + 64, "fits", 0, 1, 0);
        e.does("become", 1, 1);
        e.due(16 + 64, "fits", 0, 1, 0);
        e.does("become", 1, 20);
        e.due(8, "fits", 0, 1, 0);
    }

    private static void fitsRefused() {
        e.begin("promise 29", "FITS, by a SHEET: what 0 the set, 1 how many. BEYOND.");
        EdgeStates.some(e);
        e.does("fits", 0, 0, 0);
        e.does("fits", 2, 3, 1);
        e.beyond("fits", Edges.with(0, 0, 0), 0, -1, 4);
        e.beyond("fits", Edges.with(0, 0, 0), 1, -1, 4);
        e.beyond("fits", Edges.with(0, 0, 0), 2, -1, 2);

        e.begin("promise 29", "NONE: the SHEET is missing. (BEYOND .. NONE, in this order)");
        EdgeStates.some(e);
        e.refused(NONE, "fits", 3, 0, 0);
        e.refused(NONE, "fits", 3, 3, 1);
        e.beyond("fits", Edges.with(3, 0, 0), 0, -1, 4);
        e.beyond("fits", Edges.with(3, 0, 0), 1, -1, 4);
        e.beyond("fits", Edges.with(3, 0, 0), 2, -1, 2);
        e.does("sheet", 0, 0, 0);
        e.refused(NONE, "fits", 0, 0, 0);
    }
}
