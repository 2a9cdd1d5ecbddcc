/** Objects that hold something in each part, so that it can be seen if a refused call changes it. */
final class EdgeStates {
    private EdgeStates() {
    }

    /** A BLOCK that HOLDS, of four MARKS on three PICTURES, and of all else something. */
    static void some(Edges e) {
        e.anew();
        e.does("pictures", 3);
        e.does("mark", 12, -1, 0, 5);
        e.does("mark", 34, 0, 1, -7);
        e.does("mark", 65, 1, 2, 9);
        e.does("mark", 48, -1, 2, 4);
        rest(e);
        e.feeds("s*2-n");
        e.does("tell", e.does("markIs", 0, 7));
        e.does("tell", e.does("markIs", 1, 7) + 1);
    }

    /** As some(), but one PICTURE isn't TIED. */
    static void apart(Edges e) {
        some(e);
        e.does("on", 0, 0);
        e.does("on", 1, 0);
    }

    /** As some(), but with all of MARKS, bytes and numbers that wait of which no more are taken. */
    static void full(Edges e) {
        e.anew();
        e.does("pictures", 4);
        int[][] marks = {{12, -1, 0, 5}, {34, 0, 1, -7}, {65, 1, 2, 9}, {48, -1, 2, 4}, {0, 2, 3, 1}, {55, 3, 0, 2}, {29, -1, 3, -8}, {9, 1, 3, 20}};
        for (int[] mark : marks) {
            e.does("mark", mark[0], mark[1], mark[2], mark[3]);
        }
        rest(e);
        e.feeds("s-t+1*20+n+n+n+n+n+n+n+n+n+n+n+n+n+n+n+n+n+n+n+n+n+n+n+n+n+n");
        for (int i = 0; i < 24; i++) {
            e.does("tell", i < 8 ? e.does("markIs", i, 7) : i);
        }
    }

    /** ROUND 9999: no more ROUNDS are taken. */
    static void late(Edges e) {
        some(e);
        e.does("round", 9999);
    }

    /** Three of weight 2 that tell of one PICTURE. */
    static void three(Edges e, int a, int b, int c) {
        e.anew();
        e.does("pictures", 1);
        e.does("mark", 0, -1, 0, a);
        e.does("mark", 0, -1, 0, b);
        e.does("mark", 0, -1, 0, c);
    }

    /**
     * Three say -30 and one v, of weight 3, by a LIMIT of 99: it misses three quarters of 30 + v, so its
     * DOUBT is 99 by 14, and more than 101 by 15.
     */
    static void four(Edges e, int v) {
        e.anew();
        e.does("pictures", 1);
        for (int i = 0; i < 4; i++) {
            e.does("mark", 10, -1, 0, i < 3 ? -20 : v);
        }
        e.reads(1, "t-(t<0)*10");
        e.does("limit", 99);
    }

    private static void rest(Edges e) {
        e.does("limit", 7);
        e.does("round", 77);
        e.leads("seed", 4242);
        e.reads(0, "w-(n>4)");
        e.reads(1, "s-t/3");
        e.does("rounds", 1);
        for (int mark = 0; mark < e.does("count", 0); mark++) {
            e.does("on", mark, 1);
        }
        e.does("tell", 31);
        e.feeds("t");
        e.does("image");
        e.does("check");
        e.does("text", 1);
        e.reads(1, "s-t/2");
        e.does("measure", 0, 6);
        e.does("round", 79);
        e.leads("seed", 777);
        sheets(e);
        e.does("voice", 3, 2, 9);
    }

    private static void sheets(Edges e) {
        e.does("sheet", 0, 8, 3);
        e.does("sheet", 1, 16, 4);
        e.does("sheet", 2, 16, 1);
        for (int i = 0; i < 3; i++) {
            e.does("put", 0, i, 3 * i - 5);
            e.does("put", 1, i, 7 - i);
        }
        e.does("put", 2, 0, 15);
    }
}
