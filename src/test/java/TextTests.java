/** Promises 10 to 13: texts. */
public final class TextTests {
    private static final Checks c = new Checks();

    public static void main(String[] args) {
        feed();
        text();
        faults();
        untell();
        law();
        c.finish();
    }

    private static void feed() {
        c.begin("promise 10: feed");
        PictureBlock x = new PictureBlock();
        c.due("n 0", x.feed(0, 0), Checks.BEYOND);
        c.due("n 9", x.feed(0, 9), Checks.BEYOND);
        c.due("n -1", x.feed(0, -1), Checks.BEYOND);
        // The lowest byte first: 7, and what stands above it isn't asked for.
        c.due("feed one", x.feed(0x1137L, 1), 1);
        c.due("text(0)", x.text(0), 1);
        c.due("law", x.law(0, 1, 1, 1), 4);
        c.due("feed eight", x.feed(0x3030302D302D2B73L, 8), 8);
        c.due("s+-: the third byte", x.text(1), -12);
        c.due("feed eight", x.feed(0x2B74302B302B2B31L, 8), 8);
        c.due("the tape", x.count(7), 8);
        c.due("text(1)", x.text(1), -12);
        for (int i = 1; i <= 7; i++) {
            c.due("feed", x.feed(0L, 8), 8 * i);
        }
        c.due("five more are too many", x.feed(0L, 5), Checks.FULL);
        c.due("BEYOND first", x.feed(0L, 9), Checks.BEYOND);
        c.due("four more", x.feed(0L, 4), 60);
        c.due("one more", x.feed(0L, 1), Checks.FULL);
        c.due("the tape", x.count(7), 60);
    }

    private static void text() {
        c.begin("promise 11: text");
        PictureBlock x = new PictureBlock();
        Checks.feedAll(x, "w+1");
        c.due("use 2", x.text(2), Checks.BEYOND);
        c.due("use -1", x.text(-1), Checks.BEYOND);
        c.due("the tape stays", x.count(7), 3);
        c.due("text(0)", x.text(0), 1);
        c.due("the tape is empty", x.count(7), 0);
        c.due("law", x.law(0, 2, 0, 0), 3);
        c.due("a fault", Checks.readText(x, 0, "w-"), -12);
        c.due("the tape is empty", x.count(7), 0);
        c.due("the one ahead stays", x.law(0, 2, 0, 0), 3);
        c.due("in place of one ahead", Checks.readText(x, 0, "k"), 1);
        c.due("law", x.law(0, 2, 1, 0), 1);
        c.due("the other use has none", x.law(1, 9, 1, 0), 9);
        c.due("no error was told but two", x.told(1), 2);
        c.due("names of the other use", Checks.readText(x, 1, "t-n"), 1);
        c.due("law", x.law(1, 0, 7, 9), -2);
    }

    private static void faults() {
        c.begin("promise 11: where no text goes on");
        String longest = "1+1+1+1+1+1+1+1+1+1+1+1+1+1+1+1+1+1+1+1+1+1+1+1+1+1+1+1+1+12";
        fault("", 0);
        fault("w", -1);
        fault("s", 0);
        fault("W", 0);
        fault(" w", 0);
        fault("w ", 1);
        fault("1234", -1);
        fault("12345", 4);
        fault("0000", -1);
        fault("-1", 0);
        fault("w+", 2);
        fault("w1", 1);
        fault("1w", 1);
        fault("wk", 1);
        fault("w<k<n", 3);
        fault("w<k=n", 3);
        fault("(w<k)<n", -1);
        fault("w<k&k>n|n=1", -1);
        fault("w||k", 2);
        fault("w!k", 1);
        fault("!w", -1);
        fault("!!!!!w", -1);
        fault("!!!!!!w", 5);
        fault("!!!!!(w)", 5);
        fault("((((((w))))))", 5);
        fault("(((((w)))))", -1);
        fault("(((((w", 6);
        fault("(!(!(w)))", -1);
        fault("(!(!(!w)))", 5);
        fault("!w+!w+!w+!w+!w+!w", -1);
        fault("(w)(k)", 3);
        fault("()", 1);
        fault("(w", 2);
        fault("w)", 1);
        fault("(w))", 3);
        fault("w*k/n%2-1+0", -1);
        fault("w<", 2);
        fault("w<>k", 2);
        fault("\u00e9", 0);
        fault(longest, -1);
        fault(longest.substring(0, 59) + "+", 60);
    }

    private static void fault(String text, int fault) {
        PictureBlock x = new PictureBlock();
        c.due("the text " + text, Checks.readText(x, 0, text), fault < 0 ? 1 : -10 - fault);
    }

    private static void untell() {
        c.begin("promise 12: untell");
        PictureBlock x = new PictureBlock();
        Checks.readText(x, 0, "4");
        Checks.readText(x, 1, "5");
        c.due("untell(1)", x.untell(1), 1);
        c.due("untell(1)", x.untell(1), 0);
        c.due("that of the other use stays", x.law(0, 1, 0, 0), 4);
        c.due("without a text", x.law(1, 1, 0, 0), 1);
        c.due("untell(0)", x.untell(0), 1);
        c.due("untell(0)", x.untell(0), 0);
        c.due("untell(2)", x.untell(2), Checks.BEYOND);
        c.due("untell(-1)", x.untell(-1), Checks.BEYOND);
    }

    private static void law() {
        c.begin("promise 13: law");
        PictureBlock x = new PictureBlock();
        c.due("without a text", x.law(0, 3, 9, 9), 3);
        c.due("held", x.law(0, 0, 9, 9), 1);
        c.due("held", x.law(0, 5, 9, 9), 4);
        c.due("held", x.law(1, 31, 9, 9), 30);
        c.due("held", x.law(1, -31, 9, 9), -30);
        c.due("use 2", x.law(2, 0, 0, 0), Checks.BEYOND);
        c.due("use -1", x.law(-1, 0, 0, 0), Checks.BEYOND);
        gives("s-t-n", 9, 3, 2, 4);
        gives("s/t*n", 9, 4, 3, 6);
        gives("s-t*n", 9, 2, 3, 3);
        gives("(s-t)*n", 9, 2, 3, 21);
        gives("s/t", -7, 2, 0, -3);
        gives("s%t", -7, 2, 0, -1);
        gives("s/t+1", 7, 0, 0, 1);
        gives("s%t+1", 7, 0, 0, 1);
        gives("s/t=s", Integer.MIN_VALUE, -1, 0, 1);
        gives("s%t", Integer.MIN_VALUE, -1, 0, 0);
        gives("s+t<0", Integer.MAX_VALUE, 1, 0, 1);
        gives("s*t", 65536, 65536, 0, 0);
        gives("s|t", 5, 0, 0, 1);
        gives("s|t", 0, -5, 0, 1);
        gives("s|t", 0, 0, 0, 0);
        gives("s&t", 5, 2, 0, 1);
        gives("s&t", 5, 0, 0, 0);
        gives("s|t&n", 1, 1, 0, 1);
        gives("(s|t)&n", 1, 1, 0, 0);
        gives("s<t", 1, 2, 0, 1);
        gives("s<t", 2, 2, 0, 0);
        gives("s=t", 2, 2, 0, 1);
        gives("s=t", 2, 1, 0, 0);
        gives("s>t", 2, 1, 0, 1);
        gives("s>t", 2, 2, 0, 0);
        gives("!s", 0, 0, 0, 1);
        gives("!s", 7, 0, 0, 0);
        gives("!!s", 7, 0, 0, 1);
        gives("!s*5", 0, 0, 0, 5);
        gives("1+2<3+4&5", 0, 0, 0, 1);
        gives("0029", 0, 0, 0, 29);
        gives("9999", 0, 0, 0, 30);
    }

    private static void gives(String text, int s, int t, int n, int due) {
        PictureBlock x = new PictureBlock();
        c.due("the text " + text, Checks.readText(x, 1, text), 1);
        c.due(text + " by " + s + ", " + t + ", " + n, x.law(1, s, t, n), due);
    }
}
