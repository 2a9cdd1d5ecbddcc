/**
 * A block of pictures from the air, tied together by marks. The document that it keeps to is
 * ../shared/DOC.md; words in capitals are that document's own.
 */
public final class PictureBlock {
    private static final int LOW = -1000000000;
    private static final int BEYOND = 1;
    private static final int NONE = 2;
    private static final int STATE = 3;
    private static final int FULL = 4;
    private static final int UNLIKE = 5;
    private static final int PARTED = 6;

    private static final int MOST_MARKS = 8;
    private static final int MOST_PICTURES = 4;
    private static final int MOST_TOLD = 20;
    private static final int TOLDS = 2 * MOST_TOLD + 1;
    private static final int MOST_LIMIT = 99;
    private static final int LAST_ROUND = 9999;
    private static final int MOST_DROPPED = 9999;
    private static final int TAPE_BYTES = 60;
    private static final int MOST_OPEN = 5;
    private static final int MOST_WAITING = 24;
    private static final int SHEETS = 4;
    private static final int SHEET_NUMBERS = 24;
    private static final int TRACE_BODIES = 30;
    private static final int MOST_ROUNDS = 60;
    private static final int MOST_DRAWN_ROUNDS = 30;
    private static final int MOST_THOUGHT_ROUNDS = 40;

    private static final int KINDS = 7;
    private static final int MARK = 0;
    private static final int FLAT = 1;
    private static final int STAR = 2;
    private static final int PEAK = 3;
    private static final int AIR = 4;
    private static final int FAINT = 5;
    private static final int SHORE = 6;
    /** Of each KIND the one above it; -1 is none. */
    private static final int[] ABOVE = {-1, MARK, MARK, MARK, FLAT, STAR, MARK};
    private static final int PLAIN_WEIGHT = 2;

    private static final int USES = 2;
    private static final int WEIGHT = 0;
    private static final int SAYS = 1;

    private final Block now = new Block();
    private final Block kept = new Block();
    private final Block thought = new Block();
    private final Reader reader = new Reader(now.tape);
    private final Places places = new Places();
    private final Voices voices = new Voices();
    private final Sheets sheets = new Sheets();
    private final int[] errors = new int[PARTED + 1];
    private int images;

    public PictureBlock() {
    }

    // ---- marks, pictures

    public int mark(int km, int from, int to, int told) {
        boolean known = isKindAndNumber(km) && (from == -1 || isPicture(from)) && isPicture(to);
        if (!known || from == to || !isTold(told)) {
            return error(BEYOND);
        }
        if (now.marks >= MOST_MARKS) {
            return error(FULL);
        }
        return now.add(km, from, to, told);
    }

    public int markIs(int mark, int what) {
        if (!isMark(mark)) {
            return error(BEYOND);
        }
        switch (what) {
            case 0: return now.kind[mark];
            case 1: return now.m[mark];
            case 2: return now.from[mark];
            case 3: return now.to[mark];
            case 4: return now.told[mark];
            case 5: return now.isOn(mark) ? 1 : 0;
            case 6: return now.weightOf(mark);
            case 7: return now.saidBy(mark);
            default: return error(BEYOND);
        }
    }

    public int become(int mark, int km) {
        if (!isMark(mark) || !isKindAndNumber(km)) {
            return error(BEYOND);
        }
        int was = now.kind[mark];
        now.kind[mark] = km / 10;
        now.m[mark] = km % 10;
        return was;
    }

    public int as(int mark, int kind) {
        if (!isMark(mark) || !isWithin(kind, 0, KINDS - 1)) {
            return error(BEYOND);
        }
        if (!isOfKind(now.kind[mark], kind)) {
            return error(UNLIKE);
        }
        return now.m[mark];
    }

    public int measure(int mark, int v) {
        if (!isMark(mark) || !isTold(v)) {
            return error(BEYOND);
        }
        int was = now.told[mark];
        now.told[mark] = v;
        return was;
    }

    public int on(int mark, int v) {
        if (!isMark(mark) || !isWithin(v, 0, 1)) {
            return error(BEYOND);
        }
        int was = now.isOn(mark) ? 1 : 0;
        now.turn(mark, v == 1);
        return was;
    }

    public int pictures(int n) {
        if (!isWithin(n, 1, MOST_PICTURES)) {
            return error(BEYOND);
        }
        if (now.lastPictureMarked() >= n) {
            return error(STATE);
        }
        int was = now.pictures;
        now.pictures = n;
        return was;
    }

    public int limit(int v) {
        if (!isWithin(v, 0, MOST_LIMIT)) {
            return error(BEYOND);
        }
        int was = now.limit;
        now.limit = v;
        return was;
    }

    // ---- texts

    public int feed(long word, int n) {
        if (!isWithin(n, 1, 8)) {
            return error(BEYOND);
        }
        if (n > TAPE_BYTES - now.fed) {
            return error(FULL);
        }
        for (int i = 0; i < n; i++) {
            now.tape[now.fed] = (int) (word >>> (8 * i)) & 255;
            now.fed++;
        }
        return now.fed;
    }

    public int text(int use) {
        if (!isUse(use)) {
            return error(BEYOND);
        }
        int fault = reader.faultOf(now.fed, now.texts[use].names);
        now.fed = 0;
        if (fault >= 0) {
            return -10 - fault;
        }
        now.texts[use].copy(reader.steps, reader.count);
        return 1;
    }

    public int untell(int use) {
        if (!isUse(use)) {
            return error(BEYOND);
        }
        int was = now.texts[use].isThere() ? 1 : 0;
        now.texts[use].clear();
        return was;
    }

    public int law(int use, int a, int b, int c) {
        return isUse(use) ? now.texts[use].given(a, b, c) : error(BEYOND);
    }

    // ---- rounds

    public int rounds(int n) {
        if (!isWithin(n, 1, MOST_ROUNDS)) {
            return error(BEYOND);
        }
        if (now.round > LAST_ROUND - n) {
            return error(STATE);
        }
        for (int i = 0; i < n; i++) {
            places.passRound(now);
        }
        return Integer.bitCount(now.on);
    }

    public int loose(int n) {
        if (!isWithin(n, 1, MOST_DRAWN_ROUNDS)) {
            return error(BEYOND);
        }
        if (now.round > LAST_ROUND - n) {
            return error(STATE);
        }
        for (int i = 0; i < n; i++) {
            now.drawMark();
            places.passRound(now);
        }
        return Integer.bitCount(now.on);
    }

    public int round(int v) {
        if (!isWithin(v, 0, LAST_ROUND)) {
            return error(BEYOND);
        }
        int was = now.round;
        now.round = v;
        return was;
    }

    public int seed(int v) {
        int was = now.z;
        now.z = v;
        return was;
    }

    // ---- what all agree on best

    public long place(int picture, int part) {
        if (!isPicture(picture) || !isPart(part)) {
            return error(BEYOND);
        }
        if (!places.find(now)) {
            return error(STATE);
        }
        return partOf(places.above[picture], places.line, part);
    }

    public long miss(int mark, int part) {
        if (!isMark(mark) || !isPart(part)) {
            return error(BEYOND);
        }
        if (!places.find(now)) {
            return error(STATE);
        }
        return partOf(places.missAbove(now, mark, now.saidBy(mark)), places.line, part);
    }

    public long sum(int part) {
        if (!isPart(part)) {
            return error(BEYOND);
        }
        if (!places.find(now)) {
            return error(STATE);
        }
        return partOf(places.sumAbove(now), places.line * places.line, part);
    }

    public int doubted() {
        return places.find(now) ? places.mostDoubted(now) : error(STATE);
    }

    // ---- what would be

    public int needed() {
        if (!now.holds(now.on)) {
            return error(STATE);
        }
        int needed = 0;
        for (int mark = 0; mark < now.marks; mark++) {
            if (now.isOn(mark) && !now.holds(now.on & ~(1 << mark))) {
                needed |= 1 << mark;
            }
        }
        return needed;
    }

    public int spine() {
        if (!now.holds(now.on)) {
            return error(STATE);
        }
        int best = 0;
        int most = 0;
        for (int set = 1; set < 1 << MOST_MARKS; set++) {
            // Each mark of the fewest ties one PICTURE more: so there are as many as PICTURES.
            boolean fewest = Integer.bitCount(set) == now.pictures && (set & ~now.on) == 0;
            if (fewest && now.holds(set)) {
                int weight = now.weightOfAll(set);
                if (weight > most) {
                    most = weight;
                    best = set;
                }
            }
        }
        return best;
    }

    public int then(int n, int what) {
        if (!isWithin(n, 0, MOST_ROUNDS) || !isWithin(what, 0, 2)) {
            return error(BEYOND);
        }
        thought.copy(now);
        for (int i = 0; i < n; i++) {
            places.passRound(thought);
        }
        if (what == 0) {
            return Integer.bitCount(thought.on);
        }
        return what == 1 ? thought.on : thought.dropped;
    }

    public int soonest(int mark) {
        if (!isMark(mark)) {
            return error(BEYOND);
        }
        thought.copy(now);
        int rounds = roundsUntilOff(mark, MOST_ROUNDS);
        return rounds >= 0 ? rounds : error(NONE);
    }

    public int limitFor(int n) {
        if (!isWithin(n, 0, MOST_THOUGHT_ROUNDS)) {
            return error(BEYOND);
        }
        // While none is dropped, all goes on alike by each LIMIT: so the largest DOUBT ahead is it.
        thought.copy(now);
        long least = 0;
        for (int i = 0; i < n; i++) {
            least = Math.max(least, places.leastLimit(thought));
            thought.round++;
        }
        return least <= MOST_LIMIT ? (int) least : error(NONE);
    }

    public int toldFor(int mark) {
        if (!isMark(mark)) {
            return error(BEYOND);
        }
        if (!now.holds(now.on)) {
            return error(STATE);
        }
        thought.copy(now);
        int best = -MOST_TOLD;
        long least = Long.MAX_VALUE;
        for (int v = -MOST_TOLD; v <= MOST_TOLD; v++) {
            thought.told[mark] = v;
            places.find(thought);
            // What stands below the line comes of the WEIGHTS alone, and these are of no TOLD.
            long sum = places.sumAbove(thought);
            if (sum < least) {
                least = sum;
                best = v;
            }
        }
        return best;
    }

    public int odds(int mark, int n, int part) {
        if (!isMark(mark) || !isWithin(n, 0, MOST_THOUGHT_ROUNDS) || !isPart(part)) {
            return error(BEYOND);
        }
        int stays = 0;
        for (int v = -MOST_TOLD; v <= MOST_TOLD; v++) {
            thought.copy(now);
            thought.told[mark] = v;
            if (roundsUntilOff(mark, n) < 0) {
                stays++;
            }
        }
        return (int) partOf(stays, TOLDS, part);
    }

    public int fits(int sheet, int mark, int what) {
        if (!isSheet(sheet) || !isMark(mark) || !isWithin(what, 0, 1)) {
            return error(BEYOND);
        }
        if (sheets.isMissing(sheet)) {
            return error(NONE);
        }
        int fitting = 0;
        for (int kind = 0; kind < KINDS; kind++) {
            thought.copy(now);
            thought.kind[mark] = kind;
            if (goesAsSheetTells(sheet)) {
                fitting |= 1 << kind;
            }
        }
        return what == 0 ? fitting : Integer.bitCount(fitting);
    }

    // ---- voices, sheets, images, what is told

    public int voice(int mark, int voice, int x) {
        if (!isMark(mark) || !isWithin(voice, 0, 3)) {
            return error(BEYOND);
        }
        int answer = voices.answerOf(mark, now.m[mark], now.kind[mark], voice, x);
        return voices.parted ? error(PARTED) : answer;
    }

    public int body(int i) {
        return isWithin(i, 0, voices.traced - 1) ? voices.trace[i] : error(NONE);
    }

    public int sheet(int sheet, int bits, int n) {
        boolean known = bits == 0 || bits == 8 || bits == 16 || bits == 32;
        if (!isSheet(sheet) || !known) {
            return error(BEYOND);
        }
        if (bits != 0 && n < 0) {
            return error(STATE);
        }
        if (bits != 0 && n > SHEET_NUMBERS) {
            return error(BEYOND);
        }
        sheets.lay(sheet, bits, bits == 0 ? 0 : n);
        return 1;
    }

    public int put(int sheet, int i, int v) {
        if (!isSheet(sheet)) {
            return error(BEYOND);
        }
        if (sheets.isMissing(sheet)) {
            return error(NONE);
        }
        if (!isWithin(i, 0, sheets.length[sheet] - 1)) {
            return error(BEYOND);
        }
        sheets.write(sheet, i, v);
        return 1;
    }

    public int move(int sheet, int i, int other, int j, int n) {
        if (!isSheet(sheet) || !isSheet(other)) {
            return error(BEYOND);
        }
        if (sheets.isMissing(sheet) || sheets.isMissing(other)) {
            return error(NONE);
        }
        if (sheets.bits[sheet] != sheets.bits[other]) {
            return error(UNLIKE);
        }
        if (!sheets.stand(sheet, i, n) || !sheets.stand(other, j, n)) {
            return error(BEYOND);
        }
        System.arraycopy(sheets.numbers[sheet], i, sheets.numbers[other], j, n);
        return n;
    }

    public int tells(int sheet) {
        if (!isSheet(sheet)) {
            return error(BEYOND);
        }
        if (sheets.isMissing(sheet)) {
            return error(NONE);
        }
        int most = Math.min(sheets.length[sheet], now.marks);
        for (int i = 0; i < most; i++) {
            int v = sheets.numbers[sheet][i];
            if (!isTold(v)) {
                return i;
            }
            now.told[i] = v;
        }
        return most;
    }

    public int judge(int sheet) {
        if (!isSheet(sheet)) {
            return error(BEYOND);
        }
        if (sheets.isMissing(sheet)) {
            return error(NONE);
        }
        int most = Math.min(sheets.length[sheet], now.marks);
        for (int i = 0; i < most; i++) {
            if (sheets.numbers[sheet][i] != now.told[i]) {
                return i;
            }
        }
        return most;
    }

    public int image() {
        kept.copy(now);
        images++;
        return images;
    }

    public int restore() {
        if (images == 0) {
            return error(NONE);
        }
        now.copy(kept);
        return now.round;
    }

    public int tell(int v) {
        if (now.waiting >= MOST_WAITING) {
            return error(FULL);
        }
        now.waits[now.waiting] = v;
        now.waiting++;
        return now.waiting;
    }

    public int check() {
        int waited = now.waiting;
        now.waiting = 0;
        for (int i = 0; i < waited; i++) {
            if (i >= now.marks || now.waits[i] != now.saidBy(i)) {
                return 1 + i;
            }
        }
        return 0;
    }

    public int count(int what) {
        switch (what) {
            case 0: return now.marks;
            case 1: return now.pictures;
            case 2: return now.round;
            case 3: return now.limit;
            case 4: return now.dropped;
            case 5: return now.on;
            case 6: return now.tiedBy(now.on);
            case 7: return now.fed;
            case 8: return now.waiting;
            case 9: return voices.traced;
            case 10: return now.z;
            default: return error(BEYOND);
        }
    }

    public int told(int k) {
        return isWithin(k, BEYOND, PARTED) ? errors[k] : error(BEYOND);
    }

    // ---- what the calls above share

    private int error(int k) {
        errors[k]++;
        return LOW - k;
    }

    private boolean isMark(int mark) {
        return isWithin(mark, 0, now.marks - 1);
    }

    private boolean isPicture(int picture) {
        return isWithin(picture, 0, now.pictures - 1);
    }

    /** How many ROUNDS on (n at most) a mark of the thought BLOCK is ON no more first; -1: it stays. */
    private int roundsUntilOff(int mark, int n) {
        if (!thought.isOn(mark)) {
            return 0;
        }
        for (int i = 1; i <= n; i++) {
            places.passRound(thought);
            if (!thought.isOn(mark)) {
                return i;
            }
        }
        return -1;
    }

    private boolean goesAsSheetTells(int sheet) {
        for (int i = 0; i < sheets.length[sheet]; i++) {
            if (i > 0) {
                places.passRound(thought);
            }
            if (sheets.numbers[sheet][i] != thought.on) {
                return false;
            }
        }
        return true;
    }

    private static boolean isWithin(int v, int least, int most) {
        return v >= least && v <= most;
    }

    private static boolean isTold(int v) {
        return isWithin(v, -MOST_TOLD, MOST_TOLD);
    }

    private static boolean isKindAndNumber(int km) {
        return isWithin(km, 0, 10 * KINDS - 1);
    }

    private static boolean isUse(int use) {
        return isWithin(use, 0, USES - 1);
    }

    private static boolean isPart(int part) {
        return isWithin(part, 0, 1);
    }

    private static boolean isSheet(int sheet) {
        return isWithin(sheet, 0, SHEETS - 1);
    }

    private static boolean isOfKind(int kind, int wanted) {
        int at = kind;
        for (int i = 0; i < KINDS && at >= 0; i++) {
            if (at == wanted) {
                return true;
            }
            at = ABOVE[at];
        }
        return false;
    }

    /** Part 0 (above) or 1 (below the line) of a fraction in lowest terms; below is above 0. */
    private static long partOf(long above, long below, int part) {
        return quotient(part == 0 ? above : below, greatestDivisor(Math.abs(above), below));
    }

    private static long greatestDivisor(long a, long b) {
        long more = a;
        long less = b;
        // Each second step halves a long at least: 128 steps are enough for any two.
        for (int i = 0; i < 128 && less != 0; i++) {
            long rest = more % less;
            more = less;
            less = rest;
        }
        return more;
    }

    private static long quotient(long a, long b) {
        return b == 0 ? 0 : a / b;
    }

    /** All that an IMAGE keeps: MARKS, PICTURES, TEXTS, THE TAPE, numbers that wait. */
    private static final class Block {
        private final int[] kind = new int[MOST_MARKS];
        private final int[] m = new int[MOST_MARKS];
        private final int[] from = new int[MOST_MARKS];
        private final int[] to = new int[MOST_MARKS];
        private final int[] told = new int[MOST_MARKS];
        private final int[] tape = new int[TAPE_BYTES];
        private final int[] waits = new int[MOST_WAITING];
        private final Text[] texts = {new Text("wkn", 1, 4), new Text("stn", -30, 30)};
        private int marks;
        private int on;
        private int pictures = 2;
        private int round;
        private int limit = 20;
        private int dropped;
        private int z = 1;
        private int fed;
        private int waiting;

        private void copy(Block other) {
            System.arraycopy(other.kind, 0, kind, 0, MOST_MARKS);
            System.arraycopy(other.m, 0, m, 0, MOST_MARKS);
            System.arraycopy(other.from, 0, from, 0, MOST_MARKS);
            System.arraycopy(other.to, 0, to, 0, MOST_MARKS);
            System.arraycopy(other.told, 0, told, 0, MOST_MARKS);
            System.arraycopy(other.tape, 0, tape, 0, TAPE_BYTES);
            System.arraycopy(other.waits, 0, waits, 0, MOST_WAITING);
            for (int use = 0; use < USES; use++) {
                texts[use].copy(other.texts[use].steps, other.texts[use].count);
            }
            marks = other.marks;
            on = other.on;
            pictures = other.pictures;
            round = other.round;
            limit = other.limit;
            dropped = other.dropped;
            z = other.z;
            fed = other.fed;
            waiting = other.waiting;
        }

        private int add(int km, int from, int to, int told) {
            int mark = marks;
            kind[mark] = km / 10;
            m[mark] = km % 10;
            this.from[mark] = from;
            this.to[mark] = to;
            this.told[mark] = told;
            turn(mark, true);
            marks++;
            return mark;
        }

        private boolean isOn(int mark) {
            return (on >> mark & 1) == 1;
        }

        private void turn(int mark, boolean toOn) {
            on = toOn ? on | 1 << mark : on & ~(1 << mark);
        }

        private int lastPictureMarked() {
            int last = -1;
            for (int mark = 0; mark < marks; mark++) {
                last = Math.max(last, Math.max(from[mark], to[mark]));
            }
            return last;
        }

        private int tiedBy(int set) {
            // THE GROUND is -1: so with it as bit 0 each PICTURE's bit is one higher.
            int tied = 1;
            for (int way = 0; way < pictures; way++) {
                for (int mark = 0; mark < marks; mark++) {
                    int ends = 1 << (from[mark] + 1) | 1 << (to[mark] + 1);
                    if ((set >> mark & 1) == 1 && (tied & ends) != 0) {
                        tied |= ends;
                    }
                }
            }
            return tied >> 1;
        }

        /** Whether THE BLOCK would HOLD, if just a set of MARKS were ON. */
        private boolean holds(int set) {
            return tiedBy(set) == (1 << pictures) - 1;
        }

        private int touching(int picture) {
            int touching = 0;
            for (int mark = 0; mark < marks; mark++) {
                if (isOn(mark) && (from[mark] == picture || to[mark] == picture)) {
                    touching++;
                }
            }
            return touching;
        }

        private int weightOf(int mark) {
            int k = touching(to[mark]);
            return texts[WEIGHT].given(weighed(mark, k), k, round % 8);
        }

        private int weightOfAll(int set) {
            int weight = 0;
            for (int mark = 0; mark < marks; mark++) {
                if ((set >> mark & 1) == 1) {
                    weight += weightOf(mark);
                }
            }
            return weight;
        }

        private int saidBy(int mark) {
            return texts[SAYS].given(read(mark), told[mark], round % 8);
        }

        private int weighed(int mark, int k) {
            switch (kind[mark]) {
                case FLAT: return PLAIN_WEIGHT + 1;
                case STAR: return starWeighed(k);
                case PEAK: return m[mark] > 4 ? 4 : PLAIN_WEIGHT;
                case AIR: return round % 2 == 0 ? PLAIN_WEIGHT + 1 : 1;
                case FAINT: return starWeighed(k) - 1;
                case SHORE: return 2 * PLAIN_WEIGHT;
                default: return PLAIN_WEIGHT;
            }
        }

        private static int starWeighed(int k) {
            return k > 3 ? 1 : PLAIN_WEIGHT + 1;
        }

        private int read(int mark) {
            int v = told[mark];
            switch (kind[mark]) {
                case PEAK: return v + m[mark] % 3 - 1;
                case AIR: return v + round % Math.max(1, m[mark] + 1);
                case FAINT: return 2 * (v / 2);
                case SHORE: return Math.max(0, v) - m[mark];
                default: return v;
            }
        }

        private void drawMark() {
            if (marks > 0) {
                int mark = draw() % marks;
                told[mark] = draw() % TOLDS - MOST_TOLD;
                turn(mark, true);
            }
        }

        private int draw() {
            z = z * 1103515245 + 12345;
            return z >>> 8;
        }
    }

    /** The TEXT of a USE as steps in the order in which they are worked out; without steps, none. */
    private static final class Text {
        private final String names;
        private final int least;
        private final int most;
        /** A NUMBER as itself, a NAME as -1, -2, -3, a sign as its byte below 0. */
        private final int[] steps = new int[TAPE_BYTES];
        private final int[] open = new int[TAPE_BYTES];
        private int count;

        private Text(String names, int least, int most) {
            this.names = names;
            this.least = least;
            this.most = most;
        }

        private void copy(int[] otherSteps, int otherCount) {
            System.arraycopy(otherSteps, 0, steps, 0, TAPE_BYTES);
            count = otherCount;
        }

        private void clear() {
            count = 0;
        }

        private boolean isThere() {
            return count > 0;
        }

        private int given(int a, int b, int c) {
            // Without a TEXT it is the first NAME that is given.
            open[0] = a;
            int top = -1;
            for (int i = 0; i < count && i < TAPE_BYTES; i++) {
                int step = steps[i];
                if (step >= -3) {
                    top = Math.min(top + 1, TAPE_BYTES - 1);
                    open[top] = step >= 0 ? step : step == -1 ? a : step == -2 ? b : c;
                } else if (step == -'!' && top >= 0) {
                    open[top] = open[top] == 0 ? 1 : 0;
                } else if (top >= 1) {
                    top--;
                    open[top] = joined(-step, open[top], open[top + 1]);
                }
            }
            return Math.max(least, Math.min(most, open[0]));
        }

        private static int joined(int sign, int a, int b) {
            switch (sign) {
                case '|': return a != 0 || b != 0 ? 1 : 0;
                case '&': return a != 0 && b != 0 ? 1 : 0;
                case '<': return a < b ? 1 : 0;
                case '=': return a == b ? 1 : 0;
                case '>': return a > b ? 1 : 0;
                case '+': return a + b;
                case '-': return a - b;
                case '*': return a * b;
                case '/': return b == 0 ? 0 : a / b;
                case '%': return b == 0 ? 0 : a % b;
                default: return 0;
            }
        }
    }

    /** Reads THE TAPE as a TEXT into steps; where it ends without one, there is the FAULT. */
    private static final class Reader {
        private final int[] tape;
        private final int[] steps = new int[TAPE_BYTES];
        private int count;
        private int fed;
        private int at;
        private String names = "";

        private Reader(int[] tape) {
            this.tape = tape;
        }

        /** The FAULT of the first bytes of THE TAPE; -1: they are a TEXT. */
        private int faultOf(int fed, String names) {
            this.fed = fed;
            this.names = names;
            at = 0;
            count = 0;
            return readOr(0) && at == fed ? -1 : at;
        }

        /** The byte that comes next; -1 behind the last. */
        private int next() {
            return at < fed && at < TAPE_BYTES ? tape[at] : -1;
        }

        private void write(int step) {
            if (count < TAPE_BYTES) {
                steps[count] = step;
                count++;
            }
        }

        private boolean readOr(int open) {
            boolean well = readAnd(open);
            for (int i = 0; i < TAPE_BYTES && well && next() == '|'; i++) {
                at++;
                well = readAnd(open);
                write(-'|');
            }
            return well;
        }

        private boolean readAnd(int open) {
            boolean well = readCompared(open);
            for (int i = 0; i < TAPE_BYTES && well && next() == '&'; i++) {
                at++;
                well = readCompared(open);
                write(-'&');
            }
            return well;
        }

        private boolean readCompared(int open) {
            if (!readAdded(open)) {
                return false;
            }
            int sign = next();
            if (sign != '<' && sign != '=' && sign != '>') {
                return true;
            }
            at++;
            boolean well = readAdded(open);
            write(-sign);
            return well;
        }

        private boolean readAdded(int open) {
            boolean well = readMultiplied(open);
            for (int i = 0; i < TAPE_BYTES && well && (next() == '+' || next() == '-'); i++) {
                int sign = next();
                at++;
                well = readMultiplied(open);
                write(-sign);
            }
            return well;
        }

        private boolean readMultiplied(int open) {
            boolean well = readPart(open);
            for (int i = 0; i < TAPE_BYTES && well && isProductSign(next()); i++) {
                int sign = next();
                at++;
                well = readPart(open);
                write(-sign);
            }
            return well;
        }

        private static boolean isProductSign(int sign) {
            return sign == '*' || sign == '/' || sign == '%';
        }

        /** A NUMBER, a NAME, or one of ! and ( with what it opens; so many of these are open. */
        private boolean readPart(int open) {
            int first = next();
            if (isWithin(first, '0', '9')) {
                return readNumber();
            }
            if (first == '!' || first == '(') {
                return open < MOST_OPEN && readOpened(first, open + 1);
            }
            int name = first < 0 ? -1 : names.indexOf((char) first);
            if (name < 0) {
                return false;
            }
            at++;
            write(-1 - name);
            return true;
        }

        private boolean readNumber() {
            int number = 0;
            for (int i = 0; i < 4 && isWithin(next(), '0', '9'); i++) {
                number = 10 * number + next() - '0';
                at++;
            }
            write(number);
            return true;
        }

        private boolean readOpened(int sign, int open) {
            at++;
            if (sign == '!') {
                boolean well = readPart(open);
                write(-'!');
                return well;
            }
            if (!readOr(open) || next() != ')') {
                return false;
            }
            at++;
            return true;
        }
    }

    /** The PLACES that all MARKS of a BLOCK agree on best, all above one common line. */
    private static final class Places {
        private final long[][] rows = new long[MOST_PICTURES][MOST_PICTURES + 1];
        private final long[] above = new long[MOST_PICTURES];
        private final int[] weights = new int[MOST_MARKS];
        private final int[] said = new int[MOST_MARKS];
        private long line = 1;

        /** Whether THE BLOCK HOLDS; if so, its PLACES are found. */
        private boolean find(Block block) {
            if (!block.holds(block.on)) {
                return false;
            }
            for (int i = 0; i < MOST_PICTURES; i++) {
                for (int j = 0; j <= MOST_PICTURES; j++) {
                    rows[i][j] = 0;
                }
            }
            for (int mark = 0; mark < block.marks; mark++) {
                if (block.isOn(mark)) {
                    weights[mark] = block.weightOf(mark);
                    said[mark] = block.saidBy(mark);
                    enter(block.from[mark], block.to[mark], weights[mark], said[mark]);
                }
            }
            solve(block.pictures);
            return true;
        }

        /** SUM is least where it is level in each PLACE: a row for each, what it is due last. */
        private void enter(int from, int to, int weight, int says) {
            rows[to][to] += weight;
            rows[to][MOST_PICTURES] += weight * says;
            if (from >= 0) {
                rows[from][from] += weight;
                rows[from][to] -= weight;
                rows[to][from] -= weight;
                rows[from][MOST_PICTURES] -= weight * says;
            }
        }

        /** By whole numbers alone: each row's quotient by the pivot ahead leaves no rest. */
        private void solve(int n) {
            long ahead = 1;
            for (int k = 0; k < n; k++) {
                long pivot = rows[k][k];
                for (int i = 0; i < n; i++) {
                    if (i != k) {
                        clearColumn(rows[i], rows[k], k, ahead);
                    }
                }
                // Of a BLOCK that HOLDS each pivot is above 0.
                ahead = pivot;
            }
            line = ahead;
            for (int i = 0; i < n; i++) {
                above[i] = rows[i][MOST_PICTURES];
            }
        }

        private static void clearColumn(long[] row, long[] by, int k, long ahead) {
            long pivot = by[k];
            long factor = row[k];
            for (int j = 0; j <= MOST_PICTURES; j++) {
                row[j] = quotient(row[j] * pivot - factor * by[j], ahead);
            }
        }

        private long missAbove(Block block, int mark, int says) {
            int from = block.from[mark];
            return says * line - above[block.to[mark]] + (from < 0 ? 0 : above[from]);
        }

        /** Above the square of the line. */
        private long sumAbove(Block block) {
            long sum = 0;
            for (int mark = 0; mark < block.marks; mark++) {
                if (block.isOn(mark)) {
                    long miss = missAbove(block, mark, said[mark]);
                    sum += weights[mark] * miss * miss;
                }
            }
            return sum;
        }

        private long doubtAbove(Block block, int mark) {
            return weights[mark] * Math.abs(missAbove(block, mark, said[mark]));
        }

        private int mostDoubted(Block block) {
            int most = -1;
            long mostDoubt = -1;
            for (int mark = 0; mark < block.marks; mark++) {
                long doubt = block.isOn(mark) ? doubtAbove(block, mark) : -1;
                if (doubt > mostDoubt) {
                    mostDoubt = doubt;
                    most = mark;
                }
            }
            return most;
        }

        private void passRound(Block block) {
            if (find(block)) {
                int mark = mostDoubted(block);
                if (mark >= 0 && doubtAbove(block, mark) > block.limit * line) {
                    block.turn(mark, false);
                    block.dropped = Math.min(MOST_DROPPED, block.dropped + 1);
                }
            }
            block.round++;
        }

        private long leastLimit(Block block) {
            if (!find(block)) {
                return 0;
            }
            int mark = mostDoubted(block);
            return mark < 0 ? 0 : quotient(doubtAbove(block, mark) + line - 1, line);
        }
    }

    /** VOICES: bodies by their numbers, so that THE TRACE and what is worked out can never part. */
    private static final class Voices {
        private static final int WEIGHS = 0;
        private static final int SAYING = 1;
        private static final int TIES = 2;
        private static final int PARTS = 3;
        /** The longest way of BODIES, each begun by the one ahead, is shorter. */
        private static final int DEEPEST = 20;
        /** Of each KIND the BODIES of its four VOICES, its own or of the next KIND above with one. */
        private static final int[] BODIES = {
            10, 11, 12, 13,
            20, 11, 12, 21,
            10, 30, 12, 13,
            10, 11, 40, 13,
            50, 11, 51, 21,
            10, 60, 12, 13,
            70, 71, 12, 13,
        };

        private final int[] trace = new int[TRACE_BODIES];
        private int traced;
        private int kind;
        private int k;
        private int m;
        private boolean parted;

        private int answerOf(int mark, int number, int itsKind, int voice, int x) {
            k = mark;
            m = number;
            kind = itsKind;
            parted = false;
            traced = 0;
            return spoken(itsKind, voice, x, 0);
        }

        private int spoken(int ofKind, int voice, int x, int depth) {
            int at = 4 * ofKind + voice;
            // A VOICE that is parted ends there: no BODY begins behind that, so none is in THE TRACE.
            if (parted || depth > DEEPEST || !isWithin(at, 0, BODIES.length - 1)) {
                return 0;
            }
            return worked(BODIES[at], x, depth + 1);
        }

        private int worked(int number, int x, int depth) {
            if (traced < TRACE_BODIES) {
                trace[traced] = number;
                traced++;
            }
            switch (number) {
                case 10: return x + k;
                case 11: return spoken(kind, WEIGHS, x, depth) * 2;
                case 12: return spoken(kind, SAYING, x, depth) - m;
                case 13: return partOfDifference(x);
                case 20: return spoken(MARK, WEIGHS, x, depth) - 4;
                case 21: return spoken(MARK, PARTS, x, depth) + spoken(kind, SAYING, 1, depth);
                case 30: return -spoken(MARK, SAYING, x, depth);
                case 40: return spoken(MARK, TIES, x / 2, depth);
                case 50: return spoken(FLAT, WEIGHS, x, depth) * 3;
                case 51: return spoken(FLAT, TIES, x, depth) ^ k;
                case 60: return spoken(STAR, SAYING, x + 1, depth);
                case 70: return 9;
                case 71: return spoken(MARK, SAYING, x, depth) + m;
                default: return 0;
            }
        }

        private int partOfDifference(int x) {
            int difference = m - k;
            if (difference == 0) {
                parted = true;
                return 0;
            }
            return x / difference;
        }
    }

    /** SHEETS: their rows are as long as can be from the first on, so that no call makes one. */
    private static final class Sheets {
        private final int[][] numbers = new int[SHEETS][SHEET_NUMBERS];
        private final int[] bits = new int[SHEETS];
        private final int[] length = new int[SHEETS];

        private boolean isMissing(int sheet) {
            return bits[sheet] == 0;
        }

        private void lay(int sheet, int itsBits, int n) {
            bits[sheet] = itsBits;
            length[sheet] = n;
            for (int i = 0; i < SHEET_NUMBERS; i++) {
                numbers[sheet][i] = 0;
            }
        }

        private void write(int sheet, int i, int v) {
            numbers[sheet][i] = bits[sheet] == 8 ? (byte) v : bits[sheet] == 16 ? (short) v : v;
        }

        private boolean stand(int sheet, int i, int n) {
            return i >= 0 && i <= length[sheet] && n >= 0 && n <= length[sheet] - i;
        }
    }
}
