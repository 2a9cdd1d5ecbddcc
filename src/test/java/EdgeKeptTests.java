/** Boundaries: images, what waits, what is counted and told, promises 37 to 42. Each test quotes its sentence. */
public final class EdgeKeptTests {
    private static final long BEYOND = Edges.BEYOND;
    private static final long NONE = Edges.NONE;
    private static final Edges e = new Edges();

    public static void main(String[] args) {
        image();
        imageLeavesOut();
        restore();
        restoreAll();
        tell();
        check();
        count();
        told();
        e.finish();
    }

    private static void image() {
        e.begin("promise 37", "All .. is kept as an IMAGE, in place of one ahead: how often that was done.");
        for (int i = 1; i <= 5; i++) {
            e.does("round", i);
            e.due(i, "image");
        }
        e.does("round", 99);
        e.due(5, "restore");
        e.due(6, "image");
    }

    private static void imageLeavesOut() {
        e.begin("promise 37", "(but SHEETS, THE TRACE, what told() tells, and how often this was done)");
        e.does("mark", 0, -1, 0, 4);
        e.does("sheet", 0, 8, 1);
        e.does("voice", 0, 0, 1);
        e.due(1, "image");
        e.does("sheet", 1, 32, 2);
        e.does("put", 0, 0, 4);
        e.does("voice", 0, 1, 1);
        e.due(BEYOND, "limit", 100);
        e.due(NONE, "body", 2);
        e.due(2, "image");
        e.due(0, "restore");
        e.due(1, "judge", 0);
        e.due(1, "put", 1, 1, 9);
        e.due(2, "count", 9);
        e.due(11, "body", 0);
        e.due(1, "told", 1);
        e.due(1, "told", 2);
        e.due(3, "image");

        e.begin("promise 37", "All .. is kept: of one that is full, too");
        EdgeStates.full(e);
        e.does("image");
        e.does("untell", 0);
        e.does("check");
        e.does("text", 1);
        for (int mark = 0; mark < 8; mark++) {
            e.does("become", mark, 0);
            e.does("measure", mark, 0);
            e.does("on", mark, 0);
        }
        e.does("restore");
        e.due(8, "count", 0);
        e.due(60, "count", 7);
        e.due(24, "count", 8);
        e.due(255, "count", 5);
        e.due(Edges.FULL, "mark", 0, -1, 0, 0);
        e.due(Edges.FULL, "feed", 0x31, 1);
        e.due(Edges.FULL, "tell", 0);
        e.due(1, "untell", 0);
        // The first eight that wait are what MARKS SAY; for the ninth there is no mark.
        e.due(9, "check");
        e.due(1, "text", 1);
    }

    private static void restore() {
        e.begin("promise 38", "NONE: there is none.");
        e.refused(NONE, "restore");
        e.does("mark", 12, -1, 1, 4);
        e.does("round", 88);
        e.does("limit", 9);
        e.refused(NONE, "restore");
        e.due(2, "told", 2);
        e.due(88, "count", 2);

        e.begin("promise 38", "All is as the IMAGE has it, which stays: ROUND.");
        e.does("round", 9999);
        e.due(1, "image");
        for (int i = 0; i < 3; i++) {
            e.does("round", i);
            e.does("limit", i);
            e.does("pictures", 3);
            e.does("mark", 0, -1, 2, 0);
            e.leads("seed", i);
            e.feeds("1");
            e.does("tell", 1);
            e.due(9999, "restore");
            long[] due = {0, 2, 9999, 20, 0, 0, 0, 0, 0, 0, 1};
            for (int what = 0; what < due.length; what++) {
                e.due(due[what], "count", what);
            }
        }
    }

    private static void restoreAll() {
        e.begin("promise 38", "All is as the IMAGE has it: what was done behind it is gone, on both sides");
        EdgeStates.some(e);
        e.does("image");
        Watch due = new Watch(e.another());
        // By Watch all that can be read is spoiled, the IMAGE apart: a second reading tells the same.
        PictureBlock x = e.another();
        x.restore();
        x.mark(0, 0, 1, 0);
        x.become(0, 69);
        x.measure(1, 20);
        x.on(2, 0);
        x.pictures(4);
        x.limit(99);
        x.text(1);
        x.feed(0x39393939L, 4);
        x.untell(0);
        x.loose(9);
        x.check();
        x.tell(7);
        x.restore();
        Watch got = new Watch(x);
        e.sees("how many rows tell of it", got.calls.size(), due.calls.size());
        for (int i = 0; i < due.calls.size(); i++) {
            e.sees(due.calls.get(i), got.answers.get(i), due.answers.get(i));
        }
    }

    private static void tell() {
        e.begin("promise 39", "One more number waits: how many. FULL: 24 wait.");
        long[] any = {Edges.MIN, Edges.MAX, -1000000001, 0};
        for (int i = 1; i <= 24; i++) {
            e.due(i, "tell", any[i % 4]);
        }
        e.refused(Edges.FULL, "tell", 0);
        e.refused(Edges.FULL, "tell", Edges.MIN);
        e.due(24, "count", 8);
        e.does("check");
        e.due(1, "tell", 0);
        EdgeStates.full(e);
        e.refused(Edges.FULL, "tell", 5);
        e.refused(Edges.FULL, "tell", -1);
    }

    private static void check() {
        e.begin("promise 40", "The numbers that wait (none do then) are what MARKS 0, 1, .. SAY now: 0");
        e.due(0, "check");
        for (int i = 0; i < 8; i++) {
            e.does("mark", 31, -1, 0, i - 4);
        }
        e.due(0, "check");
        for (int n = 1; n <= 8; n++) {
            for (int i = 0; i < n; i++) {
                e.does("tell", i - 4);
            }
            e.due(0, "check");
            e.due(0, "count", 8);
        }
        // What they SAY now: by a TEXT, behind that they were told.
        e.does("tell", -3);
        e.reads(1, "t+1");
        e.due(0, "check");

        e.begin("promise 40", "else 1 and the place (from 0) of the first that isn't so");
        for (int i = 0; i < 8; i++) {
            e.does("mark", 0, -1, 0, i);
        }
        for (int wrong = 0; wrong < 8; wrong++) {
            for (int i = 0; i < 8; i++) {
                e.does("tell", i < wrong ? i : -1);
            }
            e.due(1 + wrong, "check");
            e.due(0, "count", 8);
            e.due(0, "check");
        }

        e.begin("promise 40", "(or for which there is no mark)");
        e.does("tell", 0);
        e.due(1, "check");
        for (int i = 0; i < 8; i++) {
            e.does("mark", 0, -1, 0, 0);
            for (int n = 0; n <= i; n++) {
                e.does("tell", 0);
            }
            e.does("tell", 0);
            e.due(2 + i, "check");
        }
        for (int i = 0; i < 24; i++) {
            e.does("tell", 0);
        }
        e.due(9, "check");
        e.due(0, "count", 8);
    }

    private static void count() {
        e.begin("promise 41", "0 MARKS .. 10 z (any number). BEYOND.");
        EdgeStates.full(e);
        long[] due = {8, 4, 79, 7, 1, 255, 15, 60, 24, 6, 777};
        for (int what = 0; what < due.length; what++) {
            e.due(due[what], "count", what);
        }
        e.beyond("count", Edges.with(0), 0, -1, 11);
        e.anew();
        e.beyond("count", Edges.with(0), 0, -1, 11);

        e.begin("promise 41", "10 z (any number): one that is like an ERROR is none");
        for (int k = 1; k <= 6; k++) {
            e.leads("seed", -1000000000 - k);
            e.due(-1000000000 - k, "count", 10);
        }
        for (int k = 1; k <= 6; k++) {
            e.due(0, "told", k);
        }
    }

    private static void told() {
        e.begin("promise 42", "How many acts have answered an ERROR LOW - k (k 1 .. 6)");
        for (int i = 1; i <= 3; i++) {
            e.does("tell", 0);
            e.due(BEYOND, "limit", -i);
            e.due(i, "told", 1);
            e.due(NONE, "body", i);
            e.due(i, "told", 2);
            e.due(Edges.STATE, "sum", 0);
            e.due(i, "told", 3);
        }
        for (int i = 4; i <= 24; i++) {
            e.does("tell", 0);
        }
        for (int i = 1; i <= 3; i++) {
            e.due(Edges.FULL, "tell", 0);
            e.due(i, "told", 4);
        }
        e.does("mark", 0, -1, 0, 0);
        for (int i = 1; i <= 3; i++) {
            e.due(Edges.KIND, "as", 0, 1 + i);
            e.due(i, "told", 5);
            e.due(Edges.PARTED, "voice", 0, 3, i);
            e.due(i, "told", 6);
        }
        for (int k = 1; k <= 6; k++) {
            e.due(3, "told", k);
        }

        e.begin("promise 42", "BEYOND: another k (counted, too).");
        EdgeStates.some(e);
        e.beyond("told", Edges.with(1), 0, 0, 7, -1);
        e.due(3, "told", 1);
        e.due(BEYOND, "told", 0);
        e.due(4, "told", 1);
        e.due(BEYOND, "told", 7);
        e.due(5, "told", 1);
    }
}
