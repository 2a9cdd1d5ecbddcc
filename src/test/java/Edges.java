import java.util.ArrayList;
import java.util.List;

/**
 * Tests of boundaries: each is named by a promise (or a term) and the document's sentence, and leads an
 * object of its own. Its calls are kept, so that twins can be led the same way: by them it is seen that
 * a refused call changes nothing but what told() tells.
 */
final class Edges {
    private static final int LAST = 512;
    static final long BEYOND = -1000000001L;
    static final long NONE = -1000000002L;
    static final long STATE = -1000000003L;
    static final long FULL = -1000000004L;
    static final long KIND = -1000000005L;
    static final long PARTED = -1000000006L;
    static final long MIN = Integer.MIN_VALUE;
    static final long MAX = Integer.MAX_VALUE;

    private record Call(String name, long[] with) {
        long on(PictureBlock x) {
            return Calls.answer(x, name, with);
        }

        String text() {
            return Calls.text(name, with);
        }
    }

    private final Checks checks = new Checks();
    private final List<Call> led = new ArrayList<>();
    private PictureBlock x = new PictureBlock();

    /** A test begins, with a new object: its place in the document, and the sentence there. */
    void begin(String where, String sentence) {
        checks.begin(where + ": \"" + sentence + "\"");
        anew();
    }

    void anew() {
        x = new PictureBlock();
        led.clear();
    }

    /** A call on the way to a boundary: it must be taken. */
    long does(String name, long... with) {
        long answer = call(name, with);
        checks.holds(Calls.text(name, with) + " is taken", answer >= -1000000000L);
        return answer;
    }

    /** A call on the way that may answer any number. */
    void leads(String name, long... with) {
        call(name, with);
    }

    void due(long due, String name, long... with) {
        checks.due(Calls.text(name, with), call(name, with), due);
    }

    /** A call that answers an ERROR, and by which nothing changes but what told() tells. */
    void refused(long error, String name, long... with) {
        checks.due(Calls.text(name, with), new Call(name, with).on(another()), error);
        sameButTold(error, false, new Call(name, with));
        call(name, with);
    }

    /** A voice() that is parted: THE TRACE is another then, too. */
    void parted(String name, long... with) {
        checks.due(Calls.text(name, with), new Call(name, with).on(another()), PARTED);
        sameButTold(PARTED, true, new Call(name, with));
        call(name, with);
    }

    /** One of the numbers of a call that would be taken becomes each of these, or an int's last ones. */
    void beyond(String name, long[] taken, int place, long... numbers) {
        for (long number : numbers) {
            refused(BEYOND, name, with(taken, place, number));
        }
        checks.due("what " + name + " makes of MIN", new Call(name, with(taken, place, MIN)).on(another()), BEYOND);
        checks.due("what " + name + " makes of MAX", new Call(name, with(taken, place, MAX)).on(another()), BEYOND);
    }

    void holds(String what, boolean so) {
        checks.holds(what, so);
    }

    void sees(String what, long got, long due) {
        checks.due(what, got, due);
    }

    /** A text's signs come to THE TAPE, by as few calls as can be. */
    void feeds(String text) {
        for (int at = 0; at < text.length(); at += 8) {
            int n = Math.min(8, text.length() - at);
            long word = 0;
            for (int i = n - 1; i >= 0; i--) {
                word = word << 8 | text.charAt(at + i);
            }
            does("feed", word, n);
        }
    }

    void reads(int use, String text) {
        feeds(text);
        due(1, "text", use);
    }

    void faulty(int use, String text, int fault) {
        feeds(text);
        checks.due("the FAULT of " + text, call("text", use), -10 - fault);
    }

    /** What the TEXT of what MARKS SAY gives; a test of a long that is held is told by the TEXT. */
    void gives(long due, String text, long s, long t) {
        reads(1, text);
        checks.due(text + " by " + s + ", " + t, call("law", 1, s, t, 0), due);
    }

    void finish() {
        checks.finish();
    }

    static long[] with(long... numbers) {
        return numbers;
    }

    private static long[] with(long[] taken, int place, long number) {
        long[] with = taken.clone();
        with[place] = number;
        return with;
    }

    private long call(String name, long... with) {
        Call call = new Call(name, with);
        led.add(call);
        if (led.size() > LAST) {
            checks.holds(call.text() + " is one of an object's 512 calls", false);
        }
        return call.on(x);
    }

    /** Another object that was led in the same way. */
    PictureBlock another() {
        PictureBlock twin = new PictureBlock();
        for (Call call : led) {
            call.on(twin);
        }
        return twin;
    }

    private void sameButTold(long error, boolean traced, Call call) {
        PictureBlock refusing = another();
        call.on(refusing);
        Watch due = new Watch(another());
        Watch got = new Watch(refusing);
        checks.holds("an object's 512 calls are enough", led.size() + 1 + got.calls.size() <= LAST);
        if (!traced) {
            checks.due(call.text() + ": how many rows tell of it", got.calls.size(), due.calls.size());
        }
        List<String> gotCalls = got.calls;
        for (int i = 0, j = 0; i < due.calls.size() && j < gotCalls.size(); i++, j++) {
            while (traced && j < gotCalls.size() && isTrace(gotCalls.get(j))) {
                j++;
            }
            while (traced && i < due.calls.size() && isTrace(due.calls.get(i))) {
                i++;
            }
            String row = due.calls.get(i);
            long more = row.equals("told(" + (-1000000000L - error) + ")") ? 1 : 0;
            checks.holds(row + " is asked of both", row.equals(gotCalls.get(j)));
            checks.due(row + " behind " + call.text(), got.answers.get(j), due.answers.get(i) + more);
        }
    }

    private static boolean isTrace(String row) {
        return row.startsWith("body(") || row.equals("count(9)");
    }
}
