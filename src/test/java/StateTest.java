import java.util.ArrayList;
import java.util.List;

// The boundary tests look at State to see that a refused call changes nothing: so each call that does
// change something must be seen there.
public final class StateTest {
    private static int wrong = 0;

    public static void main(String[] args) {
        List<Runs.Call> base = new ArrayList<>();
        base.add(new Runs.Call("sight", 4, 3, 42));
        base.add(new Runs.Call("sight", 0, 5, 17));
        for (int sheet = 0; sheet < 3; sheet++) {
            base.add(new Runs.Call("sheet", sheet, sheet, 3));
            base.add(new Runs.Call("cell", sheet, 1, 7));
        }
        feed(base, "turns 2 ; finds 3 ; waits 1 ;");
        base.add(new Runs.Call("text"));
        base.add(new Runs.Call("image"));
        base.add(new Runs.Call("set", 0, 0, 5));
        feed(base, "turns far");
        int[] values = {4, 3, 6, 20, 120, 33, 9, 60, 8, 77, 12, 150, 50};
        for (int what = 0; what < values.length; what++) {
            dueSeen(base, new Runs.Call("set", what, 1, values[what]));
        }
        dueSeen(base, new Runs.Call("sight", 0, 0, 0));
        dueSeen(base, new Runs.Call("feed", '+'));
        dueSeen(base, new Runs.Call("feed", ' '));
        dueSeen(base, new Runs.Call("text"));
        dueSeen(base, new Runs.Call("force", 1));
        dueSeen(base, new Runs.Call("image"));
        dueSeen(base, new Runs.Call("back"));
        for (int sheet = 0; sheet < 4; sheet++) {
            dueSeen(base, new Runs.Call("film", sheet));
            dueSeen(base, new Runs.Call("sheet", sheet, (sheet + 1) % 3, 3));
            dueSeen(base, new Runs.Call("sheet", sheet, sheet % 3, 4));
        }
        for (int sheet = 0; sheet < 3; sheet++) {
            dueSeen(base, new Runs.Call("sheet", sheet, -1, 0));
            dueSeen(base, new Runs.Call("sheet", sheet, sheet, 3));
            dueSeen(base, new Runs.Call("copy", sheet, 1, sheet, 2, 1));
            for (int i = 0; i < 3; i++) {
                dueSeen(base, new Runs.Call("cell", sheet, i, 8));
            }
        }
        dueSeen(base, new Runs.Call("sights", 2, 2, 0, 1));
        List<Runs.Call> again = new ArrayList<>(base);
        again.add(new Runs.Call("night", 0));
        if (!State.behind(again).equals(State.behind(base))) {
            say("a call that only asks is seen");
        }
        System.out.println(wrong == 0 ? "each change is seen" : wrong + " not as due");
        if (wrong != 0) {
            System.exit(1);
        }
    }

    private static void feed(List<Runs.Call> calls, String text) {
        for (int i = 0; i < text.length(); i++) {
            calls.add(new Runs.Call("feed", text.charAt(i)));
        }
    }

    private static void dueSeen(List<Runs.Call> base, Runs.Call change) {
        List<Runs.Call> calls = new ArrayList<>(base);
        calls.add(change);
        if (State.behind(calls).equals(State.behind(base))) {
            say(change + " isn't seen");
        }
    }

    private static void say(String what) {
        wrong++;
        System.out.println(what);
    }
}
