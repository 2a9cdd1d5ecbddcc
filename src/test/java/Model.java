import java.math.BigInteger;
import java.util.ArrayList;
import java.util.Arrays;
import java.util.List;

/**
 * The document once more, in another way: kinds as classes, places by determinants of big whole
 * numbers, each thing that is only thought played through on a copy, faults by trying how a text
 * could go on.
 */
final class Model {
    static final int LOW = -1000000000;

    static final class Refusal extends RuntimeException {
        private static final long serialVersionUID = 1;
        final int k;

        Refusal(int k) {
            super("", null, false, false);
            this.k = k;
        }
    }

    static void need(boolean so, int k) {
        if (!so) {
            throw new Refusal(k);
        }
    }

    // ---- kinds

    static class Mark implements Cloneable {
        int number;
        int m;
        int from;
        int to;
        int told;
        boolean on = true;
        State s;

        int kind() {
            return 0;
        }

        int weigh() {
            return 2;
        }

        int reads() {
            return told;
        }

        int weighs(int x) {
            s.begun.add(10);
            return x + number;
        }

        int says(int x) {
            s.begun.add(11);
            return weighs(x) * 2;
        }

        int ties(int x) {
            s.begun.add(12);
            return says(x) - m;
        }

        int parts(int x) {
            s.begun.add(13);
            need(m != number, 6);
            return x / (m - number);
        }

        Mark as(int kind, int itsM) {
            Mark made = make(kind);
            made.number = number;
            made.m = itsM;
            made.from = from;
            made.to = to;
            made.told = told;
            made.on = on;
            made.s = s;
            return made;
        }
    }

    static class Flat extends Mark {
        int kind() {
            return 1;
        }

        int weigh() {
            return super.weigh() + 1;
        }

        int weighs(int x) {
            s.begun.add(20);
            return super.weighs(x) - 4;
        }

        int parts(int x) {
            s.begun.add(21);
            return super.parts(x) + says(1);
        }
    }

    static class Star extends Mark {
        int kind() {
            return 2;
        }

        int weigh() {
            return s.crowd(to) > 3 ? 1 : super.weigh() + 1;
        }

        int says(int x) {
            s.begun.add(30);
            return 0 - super.says(x);
        }
    }

    static class Peak extends Mark {
        int kind() {
            return 3;
        }

        int weigh() {
            return m > 4 ? 4 : super.weigh();
        }

        int reads() {
            return super.reads() + m % 3 - 1;
        }

        int ties(int x) {
            s.begun.add(40);
            return super.ties(x / 2);
        }
    }

    static class Air extends Flat {
        int kind() {
            return 4;
        }

        int weigh() {
            return s.round % 2 == 0 ? super.weigh() : 1;
        }

        int reads() {
            return super.reads() + s.round % (m + 1);
        }

        int weighs(int x) {
            s.begun.add(50);
            return super.weighs(x) * 3;
        }

        int ties(int x) {
            s.begun.add(51);
            return super.ties(x) ^ number;
        }
    }

    static class Faint extends Star {
        int kind() {
            return 5;
        }

        int weigh() {
            return super.weigh() - 1;
        }

        int reads() {
            return super.reads() / 2 * 2;
        }

        int says(int x) {
            s.begun.add(60);
            return super.says(x + 1);
        }
    }

    static class Shore extends Mark {
        int kind() {
            return 6;
        }

        int weigh() {
            return 2 * super.weigh();
        }

        int reads() {
            return (super.reads() < 0 ? 0 : super.reads()) - m;
        }

        int weighs(int x) {
            s.begun.add(70);
            return 9;
        }

        int says(int x) {
            s.begun.add(71);
            return super.says(x) + m;
        }
    }

    static Mark make(int kind) {
        switch (kind) {
            case 0: return new Mark();
            case 1: return new Flat();
            case 2: return new Star();
            case 3: return new Peak();
            case 4: return new Air();
            case 5: return new Faint();
            default: return new Shore();
        }
    }

    // ---- texts, worked out from the signs each time

    static final class Texts {
        final String text;
        final String names;
        final int[] values;
        int at;

        Texts(String text, String names, int... values) {
            this.text = text;
            this.names = names;
            this.values = values;
        }

        static boolean isText(String text, String names) {
            Texts t = new Texts(text, names, 0, 0, 0);
            try {
                t.t(0);
            } catch (Refusal r) {
                return false;
            }
            return t.at == text.length();
        }

        static int fault(String text, String names) {
            if (isText(text, names)) {
                return -1;
            }
            for (int i = 0; i < text.length(); i++) {
                if (!goesOn(text.substring(0, i + 1), names)) {
                    return i;
                }
            }
            return text.length();
        }

        static boolean goesOn(String start, String names) {
            String end = "";
            for (int open = 0; open <= 5; open++) {
                if (isText(start + end, names) || isText(start + "0" + end, names)) {
                    return true;
                }
                end += ")";
            }
            return false;
        }

        boolean sees(String signs) {
            return at < text.length() && signs.indexOf(text.charAt(at)) >= 0;
        }

        int t(int open) {
            int a = a(open);
            while (sees("|")) {
                at++;
                int b = a(open);
                a = a != 0 | b != 0 ? 1 : 0;
            }
            return a;
        }

        int a(int open) {
            int a = b(open);
            while (sees("&")) {
                at++;
                int b = b(open);
                a = a != 0 & b != 0 ? 1 : 0;
            }
            return a;
        }

        int b(int open) {
            int a = s(open);
            if (sees("<=>")) {
                char sign = text.charAt(at++);
                int b = s(open);
                int order = Integer.compare(a, b);
                return order == (sign == '<' ? -1 : sign == '=' ? 0 : 1) ? 1 : 0;
            }
            return a;
        }

        int s(int open) {
            int a = p(open);
            while (sees("+-")) {
                char sign = text.charAt(at++);
                int b = p(open);
                a = sign == '+' ? a + b : a - b;
            }
            return a;
        }

        int p(int open) {
            int a = q(open);
            while (sees("*/%")) {
                char sign = text.charAt(at++);
                int b = q(open);
                a = sign == '*' ? a * b : b == 0 ? 0 : sign == '/' ? a / b : a % b;
            }
            return a;
        }

        int q(int open) {
            need(at < text.length(), 9);
            char first = text.charAt(at);
            if (sees("0123456789")) {
                int end = at;
                while (end < text.length() && text.charAt(end) >= '0' && text.charAt(end) <= '9') {
                    end++;
                }
                need(end - at <= 4, 9);
                int v = Integer.parseInt(text.substring(at, end));
                at = end;
                return v;
            }
            at++;
            if (first == '!') {
                need(open < 5, 9);
                return q(open + 1) == 0 ? 1 : 0;
            }
            if (first == '(') {
                need(open < 5, 9);
                int v = t(open + 1);
                need(sees(")"), 9);
                at++;
                return v;
            }
            need(names.indexOf(first) >= 0, 9);
            return values[names.indexOf(first)];
        }
    }

    static final String[] NAMES = {"wkn", "stn"};

    // ---- all that an image keeps

    static final class State {
        List<Mark> marks = new ArrayList<>();
        int pictures = 2;
        int round;
        int limit = 20;
        int dropped;
        int z = 1;
        String tape = "";
        String[] texts = new String[2];
        List<Integer> waits = new ArrayList<>();
        List<Integer> begun = new ArrayList<>();

        State copy() {
            State c = new State();
            for (Mark mark : marks) {
                Mark m = mark.as(mark.kind(), mark.m);
                m.s = c;
                c.marks.add(m);
            }
            c.pictures = pictures;
            c.round = round;
            c.limit = limit;
            c.dropped = dropped;
            c.z = z;
            c.tape = tape;
            c.texts = texts.clone();
            c.waits = new ArrayList<>(waits);
            return c;
        }

        int crowd(int picture) {
            int n = 0;
            for (Mark mark : marks) {
                n += mark.on && (mark.from == picture || mark.to == picture) ? 1 : 0;
            }
            return n;
        }

        int law(int use, int a, int b, int c) {
            int v = texts[use] == null ? a : new Texts(texts[use], NAMES[use], a, b, c).t(0);
            int most = use == 0 ? 4 : 30;
            int least = use == 0 ? 1 : -30;
            return v < least ? least : v > most ? most : v;
        }

        int weight(Mark mark) {
            return law(0, mark.weigh(), crowd(mark.to), round % 8);
        }

        int says(Mark mark) {
            return law(1, mark.reads(), mark.told, round % 8);
        }

        int on() {
            int set = 0;
            for (Mark mark : marks) {
                set |= mark.on ? 1 << mark.number : 0;
            }
            return set;
        }

        int tied(int set) {
            boolean[] tied = new boolean[5];
            tied[4] = true;
            boolean more = true;
            while (more) {
                more = false;
                for (Mark mark : marks) {
                    int from = mark.from < 0 ? 4 : mark.from;
                    if ((set & 1 << mark.number) != 0 && tied[from] != tied[mark.to]) {
                        tied[from] = true;
                        tied[mark.to] = true;
                        more = true;
                    }
                }
            }
            int result = 0;
            for (int i = 0; i < 4; i++) {
                result |= tied[i] ? 1 << i : 0;
            }
            return result;
        }

        boolean holds(int set) {
            return tied(set) == (1 << pictures) - 1;
        }

        boolean holds() {
            return holds(on());
        }

        /** Places by Cramer's rule. */
        Fraction[] places() {
            need(holds(), 3);
            BigInteger[][] a = new BigInteger[pictures][pictures + 1];
            for (BigInteger[] row : a) {
                Arrays.fill(row, BigInteger.ZERO);
            }
            for (Mark mark : marks) {
                if (mark.on) {
                    BigInteger w = BigInteger.valueOf(weight(mark));
                    BigInteger ws = w.multiply(BigInteger.valueOf(says(mark)));
                    plus(a, mark.to, mark.to, w);
                    plus(a, mark.to, pictures, ws);
                    if (mark.from >= 0) {
                        plus(a, mark.from, mark.from, w);
                        plus(a, mark.from, pictures, ws.negate());
                        plus(a, mark.from, mark.to, w.negate());
                        plus(a, mark.to, mark.from, w.negate());
                    }
                }
            }
            BigInteger below = determinant(a, pictures, -1, 0, 0);
            Fraction[] places = new Fraction[pictures];
            for (int i = 0; i < pictures; i++) {
                places[i] = new Fraction(determinant(a, pictures, i, 0, 0), below);
            }
            return places;
        }

        static void plus(BigInteger[][] a, int i, int j, BigInteger v) {
            a[i][j] = a[i][j].add(v);
        }

        /** The determinant with one column put in place by the last one; by rows from one on. */
        static BigInteger determinant(BigInteger[][] a, int n, int swapped, int row, int used) {
            if (row == n) {
                return BigInteger.ONE;
            }
            BigInteger sum = BigInteger.ZERO;
            boolean minus = false;
            for (int j = 0; j < n; j++) {
                if ((used & 1 << j) == 0) {
                    BigInteger v = a[row][j == swapped ? n : j];
                    BigInteger part = v.multiply(determinant(a, n, swapped, row + 1, used | 1 << j));
                    sum = minus ? sum.subtract(part) : sum.add(part);
                    minus = !minus;
                }
            }
            return sum;
        }

        Fraction miss(Fraction[] places, Mark mark) {
            Fraction miss = new Fraction(says(mark), 1).minus(places[mark.to]);
            return mark.from < 0 ? miss : miss.plus(places[mark.from]);
        }

        Fraction sum() {
            Fraction[] places = places();
            Fraction sum = new Fraction(0, 1);
            for (Mark mark : marks) {
                if (mark.on) {
                    Fraction miss = miss(places, mark);
                    sum = sum.plus(miss.times(miss).times(new Fraction(weight(mark), 1)));
                }
            }
            return sum;
        }

        Fraction doubt(Fraction[] places, Mark mark) {
            return miss(places, mark).size().times(new Fraction(weight(mark), 1));
        }

        Mark doubted(Fraction[] places) {
            Mark most = null;
            for (Mark mark : marks) {
                if (mark.on && (most == null || doubt(places, mark).compareTo(doubt(places, most)) > 0)) {
                    most = mark;
                }
            }
            return most;
        }

        void aRound() {
            if (holds()) {
                Fraction[] places = places();
                Mark most = doubted(places);
                if (doubt(places, most).compareTo(new Fraction(limit, 1)) > 0) {
                    most.on = false;
                    dropped = Math.min(9999, dropped + 1);
                }
            }
            round++;
        }

        State after(int n) {
            State c = copy();
            for (int i = 0; i < n; i++) {
                c.aRound();
            }
            return c;
        }

        int draw() {
            z = z * 1103515245 + 12345;
            return z >>> 8;
        }

        void looseRound() {
            if (!marks.isEmpty()) {
                Mark mark = marks.get(draw() % marks.size());
                mark.told = draw() % 41 - 20;
                mark.on = true;
            }
            aRound();
        }
    }

    static final class Fraction implements Comparable<Fraction> {
        final BigInteger above;
        final BigInteger below;

        Fraction(long above, long below) {
            this(BigInteger.valueOf(above), BigInteger.valueOf(below));
        }

        Fraction(BigInteger above, BigInteger below) {
            BigInteger g = above.gcd(below);
            if (below.signum() < 0) {
                g = g.negate();
            }
            this.above = above.divide(g);
            this.below = below.divide(g);
        }

        Fraction plus(Fraction o) {
            return new Fraction(above.multiply(o.below).add(o.above.multiply(below)), below.multiply(o.below));
        }

        Fraction minus(Fraction o) {
            return plus(new Fraction(o.above.negate(), o.below));
        }

        Fraction times(Fraction o) {
            return new Fraction(above.multiply(o.above), below.multiply(o.below));
        }

        Fraction size() {
            return new Fraction(above.abs(), below);
        }

        public int compareTo(Fraction o) {
            return above.multiply(o.below).compareTo(o.above.multiply(below));
        }

        long part(int part) {
            return (part == 0 ? above : below).longValueExact();
        }
    }

    // ---- the face

    State s = new State();
    State image;
    int images;
    List<Integer> trace = new ArrayList<>();
    int[] errors = new int[7];
    int[][] sheets = new int[4][];
    int[] bits = new int[4];

    static final int[] ARGUMENTS = {
        4, 2, 2, 2, 2, 2, 1, 1, 2, 1, 1, 4, 1, 1, 1, 1, 2, 2, 1, 0, 0, 0, 2, 1, 1, 1, 3, 3, 3, 1, 3, 3, 5, 1, 1, 0, 0, 1, 0, 1, 1,
    };

    /** What call number op (in the order of the face) answers. */
    long call(int op, long[] a) {
        try {
            int p = (int) a[0];
            int q = (int) a[1];
            int r = (int) a[2];
            if (op < 12) {
                return firstCalls(op, a[0], p, q, r, (int) a[3]);
            }
            if (op < 28) {
                return middleCalls(op, p, q, r);
            }
            return lastCalls(op, p, q, r, (int) a[3], (int) a[4]);
        } catch (Refusal refusal) {
            errors[refusal.k]++;
            return LOW - refusal.k;
        }
    }

    static void within(int v, int least, int most) {
        need(v >= least && v <= most, 1);
    }

    Mark the(int mark) {
        within(mark, 0, s.marks.size() - 1);
        return s.marks.get(mark);
    }

    long firstCalls(int op, long word, int p, int q, int r, int t) {
        switch (op) {
            case 0: {
                within(p, 0, 69);
                within(q, -1, s.pictures - 1);
                within(r, 0, s.pictures - 1);
                within(t, -20, 20);
                need(q != r, 1);
                need(s.marks.size() < 8, 4);
                Mark mark = make(p / 10);
                mark.number = s.marks.size();
                mark.m = p % 10;
                mark.from = q;
                mark.to = r;
                mark.told = t;
                mark.s = s;
                s.marks.add(mark);
                return mark.number;
            }
            case 1: {
                Mark mark = the(p);
                within(q, 0, 7);
                int[] is = {mark.kind(), mark.m, mark.from, mark.to, mark.told, mark.on ? 1 : 0, s.weight(mark), s.says(mark)};
                return is[q];
            }
            case 2: {
                Mark mark = the(p);
                within(q, 0, 69);
                s.marks.set(p, mark.as(q / 10, q % 10));
                return mark.kind();
            }
            case 3: {
                Mark mark = the(p);
                within(q, 0, 6);
                need(make(q).getClass().isInstance(mark), 5);
                return mark.m;
            }
            case 4: {
                Mark mark = the(p);
                within(q, -20, 20);
                int was = mark.told;
                mark.told = q;
                return was;
            }
            case 5: {
                Mark mark = the(p);
                within(q, 0, 1);
                int was = mark.on ? 1 : 0;
                mark.on = q == 1;
                return was;
            }
            case 6: {
                within(p, 1, 4);
                for (Mark mark : s.marks) {
                    need(mark.from < p && mark.to < p, 3);
                }
                int was = s.pictures;
                s.pictures = p;
                return was;
            }
            case 7: {
                within(p, 0, 99);
                int was = s.limit;
                s.limit = p;
                return was;
            }
            case 8: {
                within(q, 1, 8);
                need(s.tape.length() + q <= 60, 4);
                for (int i = 0; i < q; i++) {
                    s.tape += (char) (word & 255);
                    word >>= 8;
                }
                return s.tape.length();
            }
            case 9: {
                within(p, 0, 1);
                int fault = Texts.fault(s.tape, NAMES[p]);
                if (fault < 0) {
                    s.texts[p] = s.tape;
                }
                s.tape = "";
                return fault < 0 ? 1 : -10 - fault;
            }
            case 10: {
                within(p, 0, 1);
                boolean was = s.texts[p] != null;
                s.texts[p] = null;
                return was ? 1 : 0;
            }
            default:
                within(p, 0, 1);
                return s.law(p, q, r, t);
        }
    }

    long middleCalls(int op, int p, int q, int r) {
        switch (op) {
            case 12:
            case 13:
                within(p, 1, op == 12 ? 60 : 30);
                need(s.round + p <= 9999, 3);
                for (int i = 0; i < p; i++) {
                    if (op == 12) {
                        s.aRound();
                    } else {
                        s.looseRound();
                    }
                }
                return Integer.bitCount(s.on());
            case 14: {
                within(p, 0, 9999);
                int was = s.round;
                s.round = p;
                return was;
            }
            case 15: {
                int was = s.z;
                s.z = p;
                return was;
            }
            case 16:
                within(p, 0, s.pictures - 1);
                within(q, 0, 1);
                return s.places()[p].part(q);
            case 17:
                the(p);
                within(q, 0, 1);
                return s.miss(s.places(), the(p)).part(q);
            case 18:
                within(p, 0, 1);
                return s.sum().part(p);
            case 19:
                return s.doubted(s.places()).number;
            case 20: {
                need(s.holds(), 3);
                int set = 0;
                for (Mark mark : s.marks) {
                    set |= mark.on && !s.holds(s.on() - (1 << mark.number)) ? 1 << mark.number : 0;
                }
                return set;
            }
            case 21:
                return spine();
            case 22: {
                within(p, 0, 60);
                within(q, 0, 2);
                State then = s.after(p);
                return q == 0 ? Integer.bitCount(then.on()) : q == 1 ? then.on() : then.dropped;
            }
            case 23: {
                the(p);
                State then = s.copy();
                for (int n = 0; n <= 60; n++) {
                    if (!then.marks.get(p).on) {
                        return n;
                    }
                    then.aRound();
                }
                throw new Refusal(2);
            }
            case 24: {
                within(p, 0, 40);
                for (int limit = 0; limit <= 99; limit++) {
                    State then = s.copy();
                    then.limit = limit;
                    if (then.after(p).on() == s.on()) {
                        return limit;
                    }
                }
                throw new Refusal(2);
            }
            case 25: {
                the(p);
                int best = -99;
                Fraction least = null;
                for (int v = -20; v <= 20; v++) {
                    State then = s.copy();
                    then.marks.get(p).told = v;
                    Fraction sum = then.sum();
                    if (least == null || sum.compareTo(least) < 0) {
                        least = sum;
                        best = v;
                    }
                }
                return best;
            }
            case 26: {
                the(p);
                within(q, 0, 40);
                within(r, 0, 1);
                int stays = 0;
                for (int v = -20; v <= 20; v++) {
                    State then = s.copy();
                    then.marks.get(p).told = v;
                    stays += then.after(q).marks.get(p).on ? 1 : 0;
                }
                return new Fraction(stays, 41).part(r);
            }
            default:
                return fits(p, q, r);
        }
    }

    int spine() {
        need(s.holds(), 3);
        List<Integer> sets = new ArrayList<>();
        int fewest = 99;
        for (int set = 0; set < 256; set++) {
            if ((set & s.on()) == set && s.holds(set)) {
                sets.add(set);
                fewest = Math.min(fewest, Integer.bitCount(set));
            }
        }
        int best = -1;
        int most = -1;
        for (int set : sets) {
            int weight = 0;
            for (Mark mark : s.marks) {
                weight += (set & 1 << mark.number) != 0 ? s.weight(mark) : 0;
            }
            if (Integer.bitCount(set) == fewest && weight > most) {
                most = weight;
                best = set;
            }
        }
        return best;
    }

    int fits(int p, int q, int r) {
        within(p, 0, 3);
        the(q);
        within(r, 0, 1);
        need(sheets[p] != null, 2);
        int set = 0;
        for (int kind = 0; kind < 7; kind++) {
            boolean so = true;
            for (int i = 0; i < sheets[p].length; i++) {
                State then = s.copy();
                then.marks.set(q, then.marks.get(q).as(kind, then.marks.get(q).m));
                so &= then.after(i).on() == sheets[p][i];
            }
            set |= so ? 1 << kind : 0;
        }
        return r == 0 ? set : Integer.bitCount(set);
    }

    long lastCalls(int op, int p, int q, int r, int t, int u) {
        switch (op) {
            case 28: {
                Mark mark = the(p);
                within(q, 0, 3);
                mark.s.begun.clear();
                try {
                    return q == 0 ? mark.weighs(r) : q == 1 ? mark.says(r) : q == 2 ? mark.ties(r) : mark.parts(r);
                } finally {
                    trace = new ArrayList<>(mark.s.begun);
                }
            }
            case 29:
                need(p >= 0 && p < trace.size(), 2);
                return trace.get(p);
            case 30:
                within(p, 0, 3);
                need(q == 0 || q == 8 || q == 16 || q == 32, 1);
                if (q != 0) {
                    need(r >= 0, 3);
                    within(r, 0, 24);
                }
                sheets[p] = q == 0 ? null : new int[r];
                bits[p] = q;
                return 1;
            case 31:
                within(p, 0, 3);
                need(sheets[p] != null, 2);
                within(q, 0, sheets[p].length - 1);
                sheets[p][q] = r << (32 - bits[p]) >> (32 - bits[p]);
                return 1;
            case 32:
                return move(p, q, r, t, u);
            case 33:
            case 34: {
                within(p, 0, 3);
                need(sheets[p] != null, 2);
                int i = 0;
                while (i < sheets[p].length && i < s.marks.size()) {
                    int v = sheets[p][i];
                    if (op == 33 ? v < -20 || v > 20 : s.marks.get(i).told != v) {
                        break;
                    }
                    s.marks.get(i).told = v;
                    i++;
                }
                return i;
            }
            case 35:
                image = s.copy();
                images++;
                return images;
            case 36:
                need(image != null, 2);
                s = image.copy();
                return s.round;
            case 37:
                need(s.waits.size() < 24, 4);
                s.waits.add(p);
                return s.waits.size();
            case 38: {
                List<Integer> waits = s.waits;
                s.waits = new ArrayList<>();
                for (int i = 0; i < waits.size(); i++) {
                    if (i >= s.marks.size() || waits.get(i) != s.says(s.marks.get(i))) {
                        return 1 + i;
                    }
                }
                return 0;
            }
            case 39: {
                within(p, 0, 10);
                int[] counts = {s.marks.size(), s.pictures, s.round, s.limit, s.dropped, s.on(), s.tied(s.on()),
                    s.tape.length(), s.waits.size(), trace.size(), s.z};
                return counts[p];
            }
            default:
                within(p, 1, 6);
                return errors[p];
        }
    }

    int move(int p, int i, int other, int j, int n) {
        within(p, 0, 3);
        within(other, 0, 3);
        need(sheets[p] != null && sheets[other] != null, 2);
        need(bits[p] == bits[other], 5);
        need(i >= 0 && j >= 0 && n >= 0, 1);
        need((long) i + n <= sheets[p].length && (long) j + n <= sheets[other].length, 1);
        int[] was = sheets[p].clone();
        for (int x = 0; x < n; x++) {
            sheets[other][j + x] = was[i + x];
        }
        return n;
    }
}
