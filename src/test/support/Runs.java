import java.util.ArrayList;
import java.util.Arrays;
import java.util.HashMap;
import java.util.List;
import java.util.Map;
import java.util.regex.Matcher;
import java.util.regex.Pattern;

/**
 * Runs of calls on new objects, each under the sentence of the document that it tests. A line of a run is
 * <pre>
 *   set(0, 0, 9) = 0; told(0, 0) = 9    calls and the answers that are due, by number or by a constant's name
 *   new                                 the calls behind it go to a new object
 *   feed "turns far ; ..."              feed() of each byte (\n: 10)
 *   text "turns far ; ..." = 1          the same, then text()
 *   fault "turns ^; ..."                the same, the FAULT being where the ^ stands (it isn't fed)
 *   rule "turns far ; ..."              the same as text, and the TEXT is THE RULE
 *   row 0 2 = 7 -1                      SHEET 0 becomes a row of sort 2 of these numbers
 * </pre>
 * Of each call that is refused, and of each that only asks, it is looked at besides that it changes nothing.
 */
final class Runs {
    static final int WRONG = -100000;

    private static final List<String> ASKING = List.of("told", "shines", "night", "order", "best", "setting", "late",
        "sleep", "moon", "leave", "two", "cloud", "lists", "drawn", "chance", "count", "taken");
    private static final Map<String, Long> NAMED = new HashMap<>(Map.of("NONE", -1L, "BAD", -2L, "STATE", -3L,
        "FULL", -4L, "NO", AHundredSights.NO));
    private static final Pattern ONE_CALL = Pattern.compile("(\\w+)\\(([^)]*)\\) = (-?\\w+)");
    private static final Pattern QUOTED = Pattern.compile("(feed|text|fault|rule) \"([^\"]*)\"(?: = (-?\\w+))?");
    private static final Pattern ROW = Pattern.compile("row (\\d) (\\d) =((?: -?\\d+)*)");

    private final List<Call> changes = new ArrayList<>();
    private Counted object = new Counted();
    private List<Long> state = null;
    private String sentence = "";
    private int sentences = 0;
    private int answers = 0;
    private int wrong = 0;

    /** Begins the test of one more sentence, with a new object. */
    void of(String words, String... blocks) {
        sentence = words;
        sentences++;
        anew();
        for (String block : blocks) {
            for (String line : block.split("\n")) {
                line(line.trim());
            }
        }
    }

    /** Tells how it went; fails if an answer was not as due. */
    void end() {
        System.out.println(sentences + " sentences, " + answers + " answers looked at, " + wrong + " not as due");
        if (wrong != 0 || sentences == 0) {
            System.exit(1);
        }
    }

    private void anew() {
        object = new Counted();
        changes.clear();
        state = null;
    }

    private void line(String line) {
        Matcher quoted = QUOTED.matcher(line);
        Matcher row = ROW.matcher(line);
        if (line.equals("new")) {
            anew();
        } else if (quoted.matches()) {
            quoted(quoted.group(1), quoted.group(2).replace("\\n", "\n"), quoted.group(3));
        } else if (row.matches()) {
            row(Integer.parseInt(row.group(1)), Integer.parseInt(row.group(2)), row.group(3).trim());
        } else {
            for (String part : line.split("; ?")) {
                call(part.trim());
            }
        }
    }

    private void call(String part) {
        Matcher matcher = ONE_CALL.matcher(part);
        if (!matcher.matches()) {
            throw new IllegalArgumentException("no call: '" + part + "' of " + sentence);
        }
        String list = matcher.group(2).trim();
        String[] numbers = list.isEmpty() ? new String[0] : list.split(", *");
        int[] arguments = new int[numbers.length];
        for (int i = 0; i < numbers.length; i++) {
            arguments[i] = Integer.parseInt(numbers[i]);
        }
        due(number(matcher.group(3)), matcher.group(1), arguments);
    }

    private static long number(String word) {
        return NAMED.containsKey(word) ? NAMED.get(word) : Long.parseLong(word);
    }

    private void quoted(String how, String marked, String told) {
        String text = how.equals("fault") ? marked.replace("^", "") : marked;
        feed(text);
        if (how.equals("feed")) {
            return;
        }
        if (how.equals("fault")) {
            due(-100 - marked.indexOf('^'), "text");
        } else if (how.equals("text")) {
            due(number(told), "text");
        } else {
            int number = (int) object.call("count", 1);
            due(number, "text");
            due(object.call("count", 3), "force", number);
        }
    }

    void feed(String text) {
        long ahead = object.call("count", 2);
        for (int i = 0; i < text.length(); i++) {
            due(ahead + i + 1, "feed", text.charAt(i));
        }
    }

    private void row(int sheet, int sort, String list) {
        String[] numbers = list.isEmpty() ? new String[0] : list.split(" +");
        due(1, "sheet", sheet, sort, numbers.length);
        for (int i = 0; i < numbers.length; i++) {
            due(1, "cell", sheet, i, Integer.parseInt(numbers[i]));
        }
    }

    /** One call on the run's object. */
    void due(long want, String name, int... arguments) {
        Call call = new Call(name, arguments);
        same(call.toString(), call.on(object), want);
        if (mayChange(name, want)) {
            changes.add(call);
            state = null;
            return;
        }
        if (state == null) {
            state = State.behind(changes);
        }
        List<Call> one = new ArrayList<>(changes);
        one.add(call);
        if (!State.behind(one).equals(state)) {
            say(call + ", due is " + want + ", changed something");
        }
    }

    /** An answer that was got elsewhere. */
    void same(String what, long got, long want) {
        answers++;
        if (got != want) {
            say(what + " answered " + got + ", due is " + want);
        }
    }

    /** Of the calls that change something: text() has a FAULT behind -100, sights() lets come what stood ahead. */
    private static boolean mayChange(String name, long want) {
        if (ASKING.contains(name)) {
            return false;
        }
        return want >= 0 || name.equals("text") && want <= -100 || name.equals("sights") && want == -12;
    }

    private void say(String what) {
        wrong++;
        System.out.println(sentence + ": " + what);
    }

    /** A call that can be made on any object. */
    static final class Call {
        final String name;
        final int[] arguments;

        Call(String name, int... arguments) {
            this.name = name;
            this.arguments = arguments;
        }

        long on(Counted object) {
            return object.call(name, arguments);
        }

        @Override
        public String toString() {
            String list = Arrays.toString(arguments);
            return name + "(" + list.substring(1, list.length() - 1) + ")";
        }
    }
}
