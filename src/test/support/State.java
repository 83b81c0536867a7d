import java.util.ArrayList;
import java.util.List;

/**
 * All that calls have left behind, as far as the public calls tell it. Much of it can only be told by calls
 * that change something, so each part is read on an object of its own, to which the calls are made again.
 */
final class State {
    private static final int SHEETS = 4, MOST_ITEMS = 40, MOST_SIGHTS = 7, MISSING = -11;

    private final List<Long> told = new ArrayList<>();
    private Counted object = new Counted();

    private State() {
    }

    static List<Long> behind(List<Runs.Call> calls) {
        State state = new State();
        state.anew(calls);
        state.addSky();
        state.anew(calls);
        state.ask("back");
        state.addSky();
        state.anew(calls);
        state.addTexts();
        for (int sheet = 0; sheet < SHEETS; sheet++) {
            state.anew(calls);
            state.addSheet(sheet);
        }
        return state.told;
    }

    private void anew(List<Runs.Call> calls) {
        object = new Counted();
        for (Runs.Call call : calls) {
            call.on(object);
        }
    }

    private long ask(String name, int... arguments) {
        long answer = object.call(name, arguments);
        told.add(answer);
        return answer;
    }

    private void addSky() {
        for (int what = 0; what < 4; what++) {
            ask("count", what);
        }
        for (int what = 0; what < 8; what++) {
            ask("told", 0, what);
        }
        for (int of = 0; of < object.call("count", 0); of++) {
            for (int what = 8; what < 14; what++) {
                ask("told", of, what);
            }
            ask("night", 10 + of);
        }
        ask("night", 0);
    }

    /** What stands on THE TAPE is told by what is read from it; what a TEXT says, by A NIGHT. */
    private void addTexts() {
        ask("text");
        for (int text = 0; text < object.call("count", 1); text++) {
            ask("force", text);
            ask("night", 0);
            ask("night", 3);
        }
    }

    /** Its sort, its size, then each item as the SPOT of a SIGHT that comes and goes. */
    private void addSheet(int sheet) {
        int sort = -1;
        for (int one = 0; one < 3; one++) {
            long answer = ask("sights", sheet, one, 0, 0);
            if (answer == MISSING) {
                return;
            }
            sort = answer == 0 ? one : sort;
        }
        int size = sizeOf(sheet);
        told.add((long) size);
        ask("order", sheet, 0);
        ask("lists", sheet, 0);
        if (object.call("count", 0) == MOST_SIGHTS) {
            return;
        }
        int other = (sheet + 1) % SHEETS;
        object.call("sheet", other, sort, 3);
        object.call("image");
        for (int i = 0; i < size; i++) {
            object.call("copy", sheet, i, other, 2, 1);
            if (ask("sights", other, sort, 0, 1) == 1) {
                ask("told", (int) object.call("count", 0) - 1, 9);
                object.call("back");
            }
        }
    }

    private int sizeOf(int sheet) {
        int least = 0;
        int most = MOST_ITEMS;
        while (least < most) {
            int middle = (least + most + 1) / 2;
            if (object.call("copy", sheet, 0, sheet, 0, middle) == middle) {
                least = middle;
            } else {
                most = middle - 1;
            }
        }
        return least;
    }
}
