import java.util.ArrayList;
import java.util.List;

/**
 * All that an object tells of itself, as rows of calls and what they answered. It spoils the object:
 * TOLD, THE TAPE, SHEETS and numbers that wait can't be read without.
 */
final class Watch {
    final List<String> calls = new ArrayList<>();
    final List<Long> answers = new ArrayList<>();
    private final PictureBlock x;

    Watch(PictureBlock x) {
        this.x = x;
        errors();
        traced();
        state();
        best();
        tapeAndWaiting();
        sheets();
        ask("restore");
        state();
        tapeAndWaiting();
        ask("image");
        errors();
    }

    private long ask(String name, long... with) {
        long answer = Calls.answer(x, name, with);
        calls.add(Calls.text(name, with));
        answers.add(answer);
        return answer;
    }

    private void errors() {
        for (int k = 1; k <= 6; k++) {
            ask("told", k);
        }
    }

    private void traced() {
        long bodies = ask("count", 9);
        for (int i = 0; i < bodies; i++) {
            ask("body", i);
        }
    }

    private void state() {
        for (int what = 0; what <= 10; what++) {
            if (what != 9) {
                ask("count", what);
            }
        }
        long marks = ask("count", 0);
        for (int mark = 0; mark < marks; mark++) {
            for (int what = 0; what <= 7; what++) {
                ask("markIs", mark, what);
            }
        }
        laws();
    }

    private void laws() {
        for (int use = 0; use <= 1; use++) {
            ask("law", use, 2, 7, 3);
            ask("law", use, -9, 1, 5);
        }
    }

    private void best() {
        ask("place", 0, 0);
        ask("sum", 0);
        ask("doubted");
        ask("needed");
        ask("spine");
        ask("then", 3, 1);
        ask("then", 3, 2);
    }

    private void sheets() {
        for (int sheet = 0; sheet <= 3; sheet++) {
            for (int other = 0; other < sheet; other++) {
                ask("move", sheet, 0, other, 0, 0);
            }
        }
        ask("mark", 0, -1, 0, 0);
        for (int sheet = 0; sheet <= 3; sheet++) {
            numbers(sheet);
        }
    }

    /** Each number of a SHEET comes to its first one, which becomes TOLD of MARK 0. */
    private void numbers(int sheet) {
        boolean more = true;
        for (int i = 0; i <= 24 && more; i++) {
            more = ask("move", sheet, i, sheet, 0, 1) == 1;
            if (more) {
                ask("tells", sheet);
                ask("markIs", 0, 4);
            }
        }
        ask("put", sheet, 0, 65536 + 5);
        ask("judge", sheet);
        ask("tells", sheet);
        ask("put", sheet, 0, 256 + 5);
        ask("tells", sheet);
    }

    /** What waits is held against what MARKS SAY: so ahead of all that spoils TOLD. */
    private void tapeAndWaiting() {
        ask("check");
        ask("text", 1);
        laws();
    }
}
