import java.util.Random;

/** Random runs of calls, of which each answers as the model does: all promises. */
public final class ModelTests {
    private static final String[] NAMES = {
        "mark", "markIs", "become", "as", "measure", "on", "pictures", "limit", "feed", "text", "untell", "law",
        "rounds", "loose", "round", "seed", "place", "miss", "sum", "doubted", "needed", "spine", "then", "soonest",
        "limitFor", "toldFor", "odds", "fits", "voice", "body", "sheet", "put", "move", "tells", "judge", "image",
        "restore", "tell", "check", "count", "told",
    };
    private static final int FITS = 27;
    private static final Checks c = new Checks();

    public static void main(String[] args) {
        int runs = args.length > 0 ? Integer.parseInt(args[0]) : 400;
        long first = args.length > 1 ? Long.parseLong(args[1]) : 0;
        c.begin("random runs answer as the model does");
        for (long run = first; run < first + runs; run++) {
            run(new Random(run), run);
        }
        c.begin("random texts are read as the model reads them");
        for (int i = 0; i < 50 * runs; i++) {
            texts(new Random(i));
        }
        c.finish();
    }

    private static void run(Random random, long run) {
        PictureBlock x = new PictureBlock();
        Model model = new Model();
        boolean dear = run % 4 == 0;
        boolean full = random.nextInt(3) > 0;
        int calls = 0;
        if (full) {
            calls += fill(x, model, random);
        }
        while (calls < 512) {
            int op = random.nextInt(NAMES.length);
            boolean skip = op >= 22 && op <= FITS && !dear && random.nextInt(4) > 0 || isRare(op) && random.nextInt(4) > 0;
            if (skip) {
                continue;
            }
            if (op == 9 && random.nextInt(4) > 0) {
                calls += feedText(x, model, random);
            }
            if (op == FITS && random.nextInt(4) > 0) {
                calls += laySets(x, model, random);
            }
            long[] a = arguments(op, random, model);
            calls++;
            if (!same(x, model, op, a, run)) {
                return;
            }
        }
    }

    /** Of such calls too many would leave little of what others have built. */
    private static boolean isRare(int op) {
        return NAMES[op].equals("rounds") || NAMES[op].equals("restore") || NAMES[op].equals("pictures") || NAMES[op].equals("check");
    }

    private static boolean same(PictureBlock x, Model model, int op, long[] a, long run) {
        long due = model.call(op, a);
        long got = answer(x, op, a);
        if (got != due) {
            StringBuilder call = new StringBuilder(NAMES[op] + "(");
            for (int i = 0; i < Model.ARGUMENTS[op]; i++) {
                call.append(i == 0 ? "" : ", ").append(a[i]);
            }
            c.due("run " + run + ": " + call + ")", got, due);
        }
        return got == due;
    }

    private static int fill(PictureBlock x, Model model, Random random) {
        int calls = 1;
        same(x, model, 6, new long[] {2 + random.nextInt(3), 0, 0, 0, 0}, -1);
        for (int i = 0; i < 3 + random.nextInt(6); i++) {
            same(x, model, 0, arguments(0, random, model), -1);
            calls++;
        }
        return calls;
    }

    private static int feedText(PictureBlock x, Model model, Random random) {
        String text = text(random, random.nextInt(2), 3);
        for (int i = 0; i < text.length(); i++) {
            same(x, model, 8, new long[] {text.charAt(i), 1, 0, 0, 0}, -1);
        }
        return text.length();
    }

    /** A sheet as it would be by a kind of a mark. */
    private static int laySets(PictureBlock x, Model model, Random random) {
        int sheet = random.nextInt(4);
        int n = random.nextInt(6);
        same(x, model, 30, new long[] {sheet, 8 << random.nextInt(3), n, 0, 0}, -1);
        Model.State then = model.s.copy();
        if (!then.marks.isEmpty()) {
            int mark = random.nextInt(then.marks.size());
            then.marks.set(mark, then.marks.get(mark).as(random.nextInt(7), then.marks.get(mark).m));
        }
        for (int i = 0; i < n; i++) {
            same(x, model, 31, new long[] {sheet, i, then.on(), 0, 0}, -1);
            then.aRound();
        }
        return n + 1;
    }

    private static String text(Random random, int use, int depth) {
        String text = part(random, use, depth);
        String signs = "+-*/%<=>&|+-*";
        int more = random.nextInt(4);
        for (int i = 0; i < more; i++) {
            text += signs.charAt(random.nextInt(signs.length())) + part(random, use, depth);
        }
        if (depth == 3 && random.nextInt(4) == 0 && !text.isEmpty()) {
            String any = "wknst0123456789()!+-*/%<=>&| A";
            int at = random.nextInt(text.length());
            text = text.substring(0, at) + any.charAt(random.nextInt(any.length())) + text.substring(at + random.nextInt(2));
        }
        return depth == 3 && text.length() > 60 ? text.substring(0, 60) : text;
    }

    private static String part(Random random, int use, int depth) {
        int which = random.nextInt(depth > 0 ? 8 : 6);
        if (which < 4) {
            return "" + Model.NAMES[use].charAt(random.nextInt(3));
        }
        if (which < 6) {
            return "" + random.nextInt(random.nextInt(5) == 0 ? 12000 : 12);
        }
        return which == 6 ? "!" + part(random, use, depth - 1) : "(" + text(random, use, depth - 1) + ")";
    }

    private static void texts(Random random) {
        int use = random.nextInt(2);
        String text = text(random, use, 3);
        PictureBlock x = new PictureBlock();
        int fault = Model.Texts.fault(text, Model.NAMES[use]);
        c.due("the text " + text, Checks.readText(x, use, text), fault < 0 ? 1 : -10 - fault);
        if (fault < 0) {
            int a = number(random);
            int b = number(random);
            int d = number(random);
            int v = new Model.Texts(text, Model.NAMES[use], a, b, d).t(0);
            int due = use == 0 ? Math.max(1, Math.min(4, v)) : Math.max(-30, Math.min(30, v));
            c.due(text + " of " + a + ", " + b + ", " + d, x.law(use, a, b, d), due);
        }
    }

    private static int number(Random random) {
        int[] edges = {Integer.MIN_VALUE, Integer.MAX_VALUE, -1, 0, 1};
        int which = random.nextInt(12);
        return which < 5 ? edges[which] : which == 5 ? random.nextInt() : random.nextInt(61) - 30;
    }

    /** From least to most, seldom beyond. */
    private static long from(Random random, int least, int most) {
        int which = random.nextInt(40);
        if (which == 0) {
            return least - 1;
        }
        if (which == 1) {
            return most + 1;
        }
        if (which == 2) {
            return number(random);
        }
        return most < least ? least : least + random.nextInt(most - least + 1);
    }

    private static long[] arguments(int op, Random r, Model model) {
        int marks = model.s.marks.size() - 1;
        int pictures = model.s.pictures - 1;
        switch (op) {
            case 0: return row(from(r, 0, 69), from(r, -1, pictures), from(r, 0, pictures), from(r, -20, 20));
            case 1: return row(from(r, 0, marks), from(r, 0, 7));
            case 2: return row(from(r, 0, marks), from(r, 0, 69));
            case 3: return row(from(r, 0, marks), from(r, 0, 6));
            case 4: return row(from(r, 0, marks), from(r, -20, 20));
            case 5: return row(from(r, 0, marks), r.nextInt(3) > 0 ? 1 : from(r, 0, 1));
            case 6: return row(from(r, 1, 4));
            case 7: return row(r.nextBoolean() ? from(r, 0, 30) : from(r, 0, 99));
            case 8: return row(r.nextLong(), from(r, 1, 8));
            case 9:
            case 10: return row(from(r, 0, 1));
            case 11: return row(from(r, 0, 1), number(r), number(r), number(r));
            case 12: return row(r.nextBoolean() ? from(r, 1, 4) : from(r, 1, 60));
            case 13: return row(from(r, 1, 30));
            case 14: return row(r.nextInt(4) == 0 ? from(r, 9900, 9999) : from(r, 0, 9999));
            case 15: return row(r.nextInt());
            case 16: return row(from(r, 0, pictures), from(r, 0, 1));
            case 17: return row(from(r, 0, marks), from(r, 0, 1));
            case 18: return row(from(r, 0, 1));
            case 22: return row(r.nextBoolean() ? from(r, 0, 6) : from(r, 0, 60), from(r, 0, 2));
            case 23: return row(from(r, 0, marks));
            case 24: return row(r.nextInt(6) > 0 ? from(r, 0, 5) : from(r, 0, 40));
            case 25: return row(from(r, 0, marks));
            case 26: return row(from(r, 0, marks), r.nextInt(6) > 0 ? from(r, 0, 5) : from(r, 0, 40), from(r, 0, 1));
            case 27: return row(from(r, 0, 3), from(r, 0, marks), from(r, 0, 1));
            case 28: return row(from(r, 0, marks), from(r, 0, 3), number(r));
            case 29: return row(from(r, 0, 6));
            case 30: return row(from(r, 0, 3), r.nextInt(8) == 0 ? number(r) : r.nextInt(5) == 0 ? 0 : 8 << r.nextInt(3), from(r, 0, 24));
            case 31: return row(from(r, 0, 3), r.nextBoolean() ? from(r, 0, 4) : from(r, 0, 24), r.nextInt(5) == 0 ? r.nextInt() : from(r, -20, 20));
            case 32: return row(from(r, 0, 3), from(r, 0, 10), from(r, 0, 3), from(r, 0, 10), from(r, 0, 10));
            case 33:
            case 34: return row(from(r, 0, 3));
            case 37: return row(r.nextBoolean() && marks >= 0 && model.s.waits.size() <= marks
                ? model.s.says(model.s.marks.get(model.s.waits.size())) : number(r));
            case 39: return row(from(r, 0, 10));
            case 40: return row(from(r, 1, 6));
            default: return row();
        }
    }

    private static long[] row(long... given) {
        long[] row = new long[5];
        System.arraycopy(given, 0, row, 0, given.length);
        return row;
    }

    private static long answer(PictureBlock x, int op, long[] a) {
        int p = (int) a[0];
        int q = (int) a[1];
        int r = (int) a[2];
        int t = (int) a[3];
        switch (op) {
            case 0: return x.mark(p, q, r, t);
            case 1: return x.markIs(p, q);
            case 2: return x.become(p, q);
            case 3: return x.as(p, q);
            case 4: return x.measure(p, q);
            case 5: return x.on(p, q);
            case 6: return x.pictures(p);
            case 7: return x.limit(p);
            case 8: return x.feed(a[0], q);
            case 9: return x.text(p);
            case 10: return x.untell(p);
            case 11: return x.law(p, q, r, t);
            case 12: return x.rounds(p);
            case 13: return x.loose(p);
            case 14: return x.round(p);
            case 15: return x.seed(p);
            case 16: return x.place(p, q);
            case 17: return x.miss(p, q);
            case 18: return x.sum(p);
            case 19: return x.doubted();
            case 20: return x.needed();
            case 21: return x.spine();
            case 22: return x.then(p, q);
            case 23: return x.soonest(p);
            case 24: return x.limitFor(p);
            case 25: return x.toldFor(p);
            case 26: return x.odds(p, q, r);
            case 27: return x.fits(p, q, r);
            case 28: return x.voice(p, q, r);
            case 29: return x.body(p);
            case 30: return x.sheet(p, q, r);
            case 31: return x.put(p, q, r);
            case 32: return x.move(p, q, r, t, (int) a[4]);
            case 33: return x.tells(p);
            case 34: return x.judge(p);
            case 35: return x.image();
            case 36: return x.restore();
            case 37: return x.tell(p);
            case 38: return x.check();
            case 39: return x.count(p);
            default: return x.told(p);
        }
    }
}
