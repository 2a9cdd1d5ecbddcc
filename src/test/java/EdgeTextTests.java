/** Boundaries: term 2 of TEXTS, promises 10 to 13. Each test quotes its sentence. */
public final class EdgeTextTests {
    private static final long BEYOND = Edges.BEYOND;
    private static final String SIXTY = "1+1+1+1+1+1+1+1+1+1+1+1+1+1+1+1+1+1+1+1+1+1+1+1+1+1+1+1+1+12";
    private static final Edges e = new Edges();

    public static void main(String[] args) {
        feed();
        feedFull();
        text();
        grammar();
        numbers();
        open();
        faults();
        wraps();
        quotients();
        truth();
        held();
        restOfRound();
        untell();
        law();
        e.finish();
    }

    private static void feed() {
        e.begin("promise 10", "The n lowest bytes (1 .. 8) of a word, the lowest first, come to THE TAPE: how many there are. BEYOND.");
        // What stands in the word above the n lowest isn't asked for, nor is the sign of a long.
        e.due(1, "feed", 0xFFFFFFFFFFFFFF37L, 1);
        e.due(1, "text", 0);
        e.due(4, "law", 0, 0, 0, 0);
        e.due(8, "feed", 0x352D2B742D333173L, 8);
        // s13-t+-5: the second byte doesn't go on.
        e.due(-11, "text", 1);
        e.due(7, "feed", 0xFF352D332B742D73L, 7);
        e.due(1, "text", 1);
        e.due(9 - 7 + 3 - 5, "law", 1, 9, 7, 0);
        e.due(8, "feed", Long.MIN_VALUE, 8);
        e.due(16, "feed", Long.MAX_VALUE, 8);
        EdgeStates.some(e);
        e.beyond("feed", Edges.with(0x37, 1), 1, 0, 9, -1);

        e.begin("promise 10", "THE TAPE (bytes): one above 127 is a byte, too, with which no TEXT goes on");
        for (int sign = 128; sign <= 255; sign++) {
            e.does("feed", 0x31, 1);
            e.does("feed", sign, 1);
            e.due(-11, "text", sign % 2);
        }
    }

    private static void feedFull() {
        e.begin("promise 10", "FULL. (THE TAPE: bytes, at most 60)");
        for (int i = 1; i <= 7; i++) {
            e.due(8 * i, "feed", 0x2B312B312B312B31L, 8);
        }
        for (int n = 5; n <= 8; n++) {
            e.refused(Edges.FULL, "feed", 0x2B312B312B312B31L, n);
        }
        e.due(60, "feed", 0x32312B31L, 4);
        for (int n = 1; n <= 8; n++) {
            e.refused(Edges.FULL, "feed", 0x31, n);
        }
        // Nothing of those that were refused stands there: the 60 are a TEXT.
        e.due(60, "count", 7);
        e.due(1, "text", 1);
        e.due(30, "law", 1, 0, 0, 0);
        e.due(1, "feed", 0x31, 1);
        EdgeStates.full(e);
        e.due(60, "count", 7);
        e.refused(Edges.FULL, "feed", 0x31, 1);

        e.begin("promise 10", "BEYOND .. FULL, in this order");
        EdgeStates.full(e);
        e.beyond("feed", Edges.with(0x31, 1), 1, 0, 9, -1);
        e.refused(Edges.FULL, "feed", 0x31, 1);
    }

    private static void text() {
        e.begin("promise 11", "THE TAPE, which is empty then, is the TEXT of a USE (0, 1), in place of one ahead: 1.");
        for (int use = 0; use <= 1; use++) {
            e.feeds("3");
            e.due(1, "text", use);
            e.due(0, "count", 7);
            e.feeds("2");
            e.due(1, "text", use);
            e.due(0, "count", 7);
            e.due(2, "law", use, 4, 0, 0);
            // An empty TAPE is no TEXT, and leaves the one ahead.
            e.due(-10, "text", use);
            e.due(2, "law", use, 4, 0, 0);
        }

        e.begin("promise 11", "BEYOND (THE TAPE stays).");
        e.beyond("text", Edges.with(0), 0, -1, 2);
        EdgeStates.some(e);
        e.beyond("text", Edges.with(0), 0, -1, 2);
        EdgeStates.full(e);
        e.beyond("text", Edges.with(0), 0, -1, 2);
        e.due(60, "count", 7);
        e.due(1, "text", 1);

        e.begin("promise 11", "-10 less the FAULT (no ERROR; the one ahead stays; THE TAPE is empty, too).");
        for (int use = 0; use <= 1; use++) {
            e.reads(use, "2+1");
            e.faulty(use, "2+", 2);
            e.due(0, "count", 7);
            e.due(3, "law", use, 1, 1, 1);
            e.faulty(use, "x", 0);
            e.due(0, "count", 7);
            e.due(3, "law", use, 1, 1, 1);
            e.due(1, "untell", use);
            e.faulty(use, "(", 1);
            e.due(0, "untell", use);
        }
        for (int k = 1; k <= 6; k++) {
            e.due(0, "told", k);
        }
    }

    private static void grammar() {
        e.begin("terms 2", "T: A { | A }. A: B { & B }. S: P { + P, - P }. P: Q { * Q, / Q, % Q }.");
        taken(0, "w", "1", "w|k|n", "w&k&n", "w+k-n+1", "w*k/n%2*3", "w|k&n|1&2", "w&k=n", "w+1*2<k%3-4");
        for (String sign : new String[] {"|", "&", "+", "-", "*", "/", "%"}) {
            e.faulty(0, "w" + sign, 2);
            e.faulty(0, sign + "w", 0);
            e.faulty(0, "w" + sign + sign + "w", 2);
            e.faulty(0, "w" + sign + "k" + sign, 4);
            e.faulty(0, "(" + sign, 1);
            e.faulty(0, "(w" + sign + ")", 3);
        }

        e.begin("terms 2", "B: S, or S < S, S = S, S > S.");
        for (String sign : new String[] {"<", "=", ">"}) {
            taken(0, "w" + sign + "k", "w" + sign + "k|n" + sign + "1", "(w" + sign + "k)" + sign + "n", "w+1" + sign + "k-1&n" + sign + "2");
            e.faulty(0, "w" + sign, 2);
            e.faulty(0, sign + "w", 0);
            e.faulty(0, "w" + sign + "k<n", 3);
            e.faulty(0, "w" + sign + "k=n", 3);
            e.faulty(0, "w" + sign + "k>n", 3);
            e.faulty(0, "w" + sign + "=k", 2);
        }

        e.begin("terms 2", "Q: a NUMBER .., a NAME, ! Q, ( T ).");
        taken(0, "!w", "!1", "!(w|k)", "!!w", "(w)", "((w))", "(!w)*!k", "!w*k");
        e.faulty(0, "!", 1);
        e.faulty(0, "w!", 1);
        e.faulty(0, "w!k", 1);
        e.faulty(0, "!)", 1);
        e.faulty(0, "()", 1);
        e.faulty(0, "(w", 2);
        e.faulty(0, "(w))", 3);
        e.faulty(0, "w)", 1);
        e.faulty(0, ")", 0);
        e.faulty(0, "w(", 1);
        e.faulty(0, "(w)(", 3);
        e.faulty(0, "(w)k", 3);
        e.faulty(0, "ww", 1);
        e.faulty(0, "1w", 1);
        e.faulty(0, "w1", 1);

        e.begin("terms 2", "NAMES: of USE 0 w, k, n; of USE 1 s, t, n");
        for (char name = 0; name < 256; name++) {
            for (int use = 0; use <= 1; use++) {
                boolean is = (use == 0 ? "wkn" : "stn").indexOf(name) >= 0 || name >= '0' && name <= '9';
                PictureBlock x = new PictureBlock();
                x.feed(name, 1);
                boolean opens = name == '(' || name == '!';
                e.sees("USE " + use + ", byte " + (int) name, x.text(use), is ? 1 : opens ? -11 : -10);
            }
        }

        e.begin("terms 2", "No blanks.");
        e.faulty(0, " w", 0);
        e.faulty(0, "w ", 1);
        e.faulty(0, "w +k", 1);
        e.faulty(0, "w+ k", 2);
        e.faulty(0, "( w)", 1);
        e.faulty(0, "1 2", 1);
        e.faulty(0, "w\n", 1);
        e.faulty(0, "w\u0000", 1);
    }

    private static void numbers() {
        e.begin("terms 2", "a NUMBER of 1 to 4 digits");
        taken(0, "0", "9", "12", "123", "1234", "0000", "9999", "0001");
        e.faulty(0, "12345", 4);
        e.faulty(0, "00000", 4);
        e.faulty(0, "w+12345", 6);
        e.faulty(0, "1+99999+", 6);
        e.faulty(0, "(12345", 5);
        e.faulty(0, "1234 ", 4);
        e.faulty(0, "1:", 1);
        e.faulty(0, "1/", 2);
        e.gives(1, "9999=10*999+9", 0, 0);
        e.gives(1, "0012=12", 0, 0);
        e.gives(9, "0009", 0, 0);
        e.gives(-9, "0-0009", 0, 0);
    }

    private static void open() {
        e.begin("terms 2", "At most 5 of ! and ( are open at once.");
        taken(0, "!!!!!w", "(((((w)))))", "!(!(!w))", "(!(!(w)))", "!!!!(w)", "((((!w))))");
        e.faulty(0, "!!!!!!w", 5);
        e.faulty(0, "((((((w))))))", 5);
        e.faulty(0, "!!!!!(w)", 5);
        e.faulty(0, "(((((!w)))))", 5);
        e.faulty(0, "!(!(!(w)))", 5);
        e.faulty(0, "(!(!(!w)))", 5);
        // Those that are closed are open no more.
        taken(0, "!!!!!w+!!!!!w", "(((((w)))))*(((((k)))))", "(((((w)+(k))+(n))))", "((((!w+!k+!n))))");
        e.faulty(0, "(((((w)+((w)", 9);
        e.faulty(0, "!!!!!w+!!!!!!w", 12);
        e.faulty(0, "(((((w))))))", 11);
        // As many as the bytes let be, one behind the other.
        taken(0, "!w+!w+!w+!w+!w+!w+!w+!w+!w+!w+!w+!w+!w+!w+!w+!w+!w+!w+!w+!w");
        e.gives(1, "!!!!s", 7, 0);
        e.gives(0, "!!!!!s", 7, 0);
    }

    private static void faults() {
        e.begin("terms 2", "FAULT: the place of the first byte with which no TEXT goes on; how many there are, if it ends too early.");
        e.due(-10, "text", 0);
        e.due(-10, "text", 1);
        e.faulty(0, "w+k-", 4);
        e.faulty(0, "((w", 3);
        e.faulty(0, "s", 0);
        e.faulty(1, "w", 0);
        e.faulty(0, "w+k)+", 3);
        e.faulty(1, SIXTY.substring(0, 59) + "x", 59);
        e.faulty(1, SIXTY.substring(0, 58) + "x+", 58);
        // One of 60 bytes that ends too early: how long THE TAPE may be doesn't matter.
        e.faulty(1, SIXTY.substring(0, 59) + "+", 60);
        e.faulty(1, "(" + SIXTY.substring(0, 59), 60);
        taken(1, SIXTY);
        e.due(30, "law", 1, 0, 0, 0);
    }

    private static void wraps() {
        e.begin("terms 2", "Ints that wrap");
        e.gives(1, "s+t=0-9999-9999*0", -9999, 0);
        e.gives(1, "s+t<0", Edges.MAX, 1);
        e.gives(1, "s+1+t=0", Edges.MAX, Edges.MIN);
        e.gives(1, "s-t>0", Edges.MIN, 1);
        e.gives(1, "0-s=s", Edges.MIN, 0);
        e.gives(1, "s*t=0", 65536, 65536);
        e.gives(1, "s*2=0-2", Edges.MAX, 0);
        e.gives(1, "s*s=1", Edges.MAX, 0);
        e.gives(1, "s*t=s", Edges.MIN, -1);
        e.gives(16, "s*s*s*s*16+s*s*0+16", 256, 0);
    }

    private static void quotients() {
        e.begin("terms 2", "/ cut, % the rest that it leaves");
        e.gives(3, "s/t", 7, 2);
        e.gives(-3, "s/t", -7, 2);
        e.gives(-3, "s/t", 7, -2);
        e.gives(3, "s/t", -7, -2);
        e.gives(0, "s/t", -1, 2);
        e.gives(1, "s%t", 7, 2);
        e.gives(-1, "s%t", -7, 2);
        e.gives(1, "s%t", 7, -2);
        e.gives(-1, "s%t", -7, -2);
        e.gives(1, "s/t=s", Edges.MIN, -1);
        e.gives(0, "s%t", Edges.MIN, -1);

        e.begin("terms 2", "/ .. %, both by 0 are 0");
        e.gives(0, "s/t", 7, 0);
        e.gives(0, "s%t", 7, 0);
        e.gives(0, "s/t", Edges.MIN, 0);
        e.gives(0, "s%t", Edges.MIN, 0);
        e.gives(5, "s/(t-t)+5", 7, 3);
        e.gives(5, "5+s%0*9", 7, 3);
        e.gives(0, "0/0+0%0", 7, 3);
    }

    private static void truth() {
        e.begin("terms 2", "| & < = > ! are 1 or 0, what is not 0 being true");
        int[] numbers = {0, 1, 2, -1, -2};
        for (int s : numbers) {
            for (int t : numbers) {
                PictureBlock x = new PictureBlock();
                e.sees(s + "|" + t, law(x, "s|t", s, t), s != 0 || t != 0 ? 1 : 0);
                e.sees(s + "&" + t, law(x, "s&t", s, t), s != 0 && t != 0 ? 1 : 0);
                e.sees(s + "<" + t, law(x, "s<t", s, t), s < t ? 1 : 0);
                e.sees(s + "=" + t, law(x, "s=t", s, t), s == t ? 1 : 0);
                e.sees(s + ">" + t, law(x, "s>t", s, t), s > t ? 1 : 0);
                e.sees("!" + s, law(x, "!s", s, t), s == 0 ? 1 : 0);
            }
        }
        e.gives(1, "s<t", Edges.MIN, Edges.MAX);
        e.gives(0, "s>t", Edges.MIN, Edges.MAX);
        e.gives(1, "s|t", 0, Edges.MIN);
        e.gives(0, "!s", Edges.MIN, 0);
    }

    private static int law(PictureBlock x, String text, int s, int t) {
        return Checks.readText(x, 1, text) == 1 ? x.law(1, s, t, 0) : -99;
    }

    private static void held() {
        e.begin("terms 2", "USES: 0 WEIGHT .. held within 1 .. 4; without a TEXT w (held likewise)");
        for (int told = 0; told < 2; told++) {
            long[][] due = {{Edges.MIN, 1}, {-1, 1}, {0, 1}, {1, 1}, {2, 2}, {3, 3}, {4, 4}, {5, 4}, {Edges.MAX, 4}};
            for (long[] row : due) {
                e.due(row[1], "law", 0, row[0], 7, 7);
            }
            e.reads(0, "w");
        }
        e.due(1, "untell", 0);
        e.due(4, "law", 0, 5, 0, 0);

        e.begin("terms 2", "USES: 1 SAYS .. held within -30 .. 30; without a TEXT s (held likewise)");
        for (int told = 0; told < 2; told++) {
            long[][] due = {{Edges.MIN, -30}, {-31, -30}, {-30, -30}, {-29, -29}, {0, 0}, {29, 29}, {30, 30}, {31, 30}, {Edges.MAX, 30}};
            for (long[] row : due) {
                e.due(row[1], "law", 1, row[0], 7, 7);
            }
            e.reads(1, "s");
        }
        // What a TEXT gives is held but once, behind all: not what stands on the way.
        e.gives(1, "s*s-9999", 100, 0);
    }

    private static void restOfRound() {
        e.begin("terms 2", "n the rest of ROUND by 8");
        e.does("mark", 0, -1, 0, 0);
        e.reads(1, "n");
        e.reads(0, "n-3");
        int[][] rounds = {{0, 0}, {1, 1}, {7, 7}, {8, 0}, {9, 1}, {15, 7}, {16, 0}, {9991, 7}, {9992, 0}, {9999, 7}};
        for (int[] round : rounds) {
            e.does("round", round[0]);
            e.due(round[1], "markIs", 0, 7);
            e.due(Math.max(1, Math.min(4, round[1] - 3)), "markIs", 0, 6);
        }

        e.begin("terms 2", "k how many MARKS that are ON are FROM or TO the PICTURE TO which it is");
        e.does("mark", 0, 1, 0, 0);
        e.reads(0, "5-k");
        // Each further one that counts comes with one that doesn't: not ON, or elsewhere.
        int[][] ends = {{0, 1}, {-1, 1}, {-1, 0}, {-1, 1}, {1, 0}};
        int[] due = {3, 3, 2, 2, 1};
        e.due(4, "markIs", 0, 6);
        for (int i = 0; i < ends.length; i++) {
            e.does("mark", 0, ends[i][0], ends[i][1], 0);
            e.due(due[i], "markIs", 0, 6);
        }
        e.does("mark", 0, -1, 0, 0);
        e.does("on", 6, 0);
        e.due(1, "markIs", 0, 6);
        e.does("on", 5, 0);
        e.due(2, "markIs", 0, 6);
        e.does("on", 5, 1);
        e.reads(0, "k");
        e.due(4, "markIs", 0, 6);
        e.does("on", 0, 0);
        e.due(3, "markIs", 0, 6);
        e.does("on", 1, 0);
        e.does("on", 3, 0);
        e.due(1, "markIs", 0, 6);
        e.does("on", 5, 0);
        // None is: 0 is held, but it is 0 that the TEXT is given.
        e.reads(0, "k+2");
        e.due(2, "markIs", 0, 6);

        e.begin("terms 2", "k .. (MARKS: at most 8): as many as there can be");
        for (int mark = 0; mark < 8; mark++) {
            e.does("mark", 0, -1, 0, 0);
        }
        e.reads(0, "k-5");
        e.due(3, "markIs", 7, 6);
    }

    private static void untell() {
        e.begin("promise 12", "There is no TEXT of a USE any more: 1 if there was, else 0. BEYOND.");
        for (int use = 0; use <= 1; use++) {
            e.anew();
            e.due(0, "untell", use);
            e.reads(use, "3");
            e.reads(1 - use, "2");
            e.due(1, "untell", use);
            e.due(0, "untell", use);
            e.due(1, "law", use, 1, 0, 0);
            e.due(2, "law", 1 - use, 1, 0, 0);
        }
        EdgeStates.some(e);
        e.beyond("untell", Edges.with(0), 0, -1, 2);
    }

    private static void law() {
        e.begin("promise 13", "What a USE gives with its NAMES in order as a, b, c (any number). BEYOND.");
        e.reads(0, "(w=0-9999)+(k=9999)*2+(n=7777)*3");
        e.due(1, "law", 0, -9999, 0, 0);
        e.due(2, "law", 0, 0, 9999, 0);
        e.due(3, "law", 0, 0, 0, 7777);
        e.reads(1, "(s<0)*9+(t<0)*3+(n<0)");
        e.due(9, "law", 1, Edges.MIN, Edges.MAX, Edges.MAX);
        e.due(3, "law", 1, Edges.MAX, Edges.MIN, Edges.MAX);
        e.due(1, "law", 1, Edges.MAX, Edges.MAX, Edges.MIN);
        e.due(13, "law", 1, -1000000001, -1000000002, -1000000003);
        EdgeStates.some(e);
        e.beyond("law", Edges.with(0, 1, 1, 1), 0, -1, 2);
    }

    private static void taken(int use, String... texts) {
        for (String text : texts) {
            e.reads(use, text);
        }
    }
}
