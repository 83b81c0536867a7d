// Each promise by itself: ordinary calls, the edges that the document names, and wrong calls.
// What is due was worked out by hand from the document.
public final class PromiseTest {
    private static final int WRONG = -100000;
    private static int checked = 0;
    private static int failures = 0;
    private static int promise = 0;

    public static void main(String[] args) {
        newObject();
        set();
        sight();
        told();
        shines();
        feed();
        textFaults();
        textValues();
        textNumbers();
        force();
        night();
        nightByKinds();
        order();
        best();
        setting();
        late();
        sleep();
        moon();
        leave();
        two();
        cloud();
        lists();
        film();
        drawn();
        chance();
        image();
        back();
        count();
        sheet();
        cell();
        copy();
        sights();
        taken();
        System.out.println(checked + " answers looked at, " + failures + " not as due");
        if (failures != 0) {
            System.exit(1);
        }
    }

    private static void due(String call, long got, long want) {
        checked++;
        if (got != want) {
            failures++;
            System.out.println("promise " + promise + ": " + call + " answered " + got + ", due is " + want);
        }
    }

    /** Feeds a text and reads it. */
    private static int read(AHundredSights x, String text) {
        for (int i = 0; i < text.length(); i++) {
            x.feed(text.charAt(i));
        }
        return x.text();
    }

    private static void row(AHundredSights x, int sheet, int sort, int... items) {
        due("sheet", x.sheet(sheet, sort, items.length), 1);
        for (int i = 0; i < items.length; i++) {
            due("cell", x.cell(sheet, i, items[i]), 1);
        }
    }

    private static AHundredSights withSights(int... threes) {
        AHundredSights x = new AHundredSights();
        for (int i = 0; i < threes.length; i += 3) {
            due("sight", x.sight(threes[i], threes[i + 1], threes[i + 2]), i / 3);
        }
        return x;
    }

    private static void ruleOf(AHundredSights x, String text) {
        int number = read(x, text);
        due("text '" + text + "' stands", number > 0 ? 1 : 0, 1);
        x.force(number);
    }

    private static void dueDials(AHundredSights x, int... values) {
        for (int what = 0; what < values.length; what++) {
            due("told(0, " + what + ")", x.told(0, what), values[what]);
        }
    }

    private static void newObject() {
        promise = 1;
        AHundredSights x = new AHundredSights();
        due("count(0)", x.count(0), 0);
        due("count(1)", x.count(1), 1);
        due("count(2)", x.count(2), 0);
        due("count(3)", x.count(3), 0);
        dueDials(x, 0, 9, 0, 199, 0, 0, 0, 199);
        due("back()", x.back(), -3);
        for (int sheet = 0; sheet < 4; sheet++) {
            due("cell of a missing sheet", x.cell(sheet, 0, 1), -11);
        }
        due("night(3)", x.night(3), 0);
        due("NO", AHundredSights.NO, -4611686018427387904L);
        due("NONE, BAD, STATE, FULL", AHundredSights.NONE * 1000 + AHundredSights.BAD * 100
            + AHundredSights.STATE * 10 + AHundredSights.FULL, -1234);
    }

    private static void set() {
        promise = 2;
        AHundredSights x = withSights(0, 3, 44, 1, 4, 55);
        int[] most = {9, 9, 9, 199, 199, 99, 199, 199};
        int[] was = {0, 9, 0, 199, 0, 0, 0, 199};
        for (int what = 0; what < 8; what++) {
            due("set " + what + " to the most", x.set(what, -77, most[what]), was[what]);
            due("set " + what + " above it", x.set(what, 0, most[what] + 1), -2);
            due("set " + what + " below 0", x.set(what, 0, -1), -2);
            due("a refused set changes nothing", x.told(0, what), most[what]);
            due("set " + what + " to 0", x.set(what, 99, 0), most[what]);
        }
        int[] traitMost = {9, 99, 199, 199, 99};
        int[] traitWas = {4, 55, 0, 199, 10};
        for (int what : new int[] {8, 9, 11, 10, 12}) {
            due("set " + what + " to the most", x.set(what, 1, traitMost[what - 8]), traitWas[what - 8]);
            due("set " + what + " above it", x.set(what, 1, traitMost[what - 8] + 1), -2);
            due("set " + what + " below 0", x.set(what, 1, -1), -2);
            due("set " + what + " of no such sight", x.set(what, 2, 0), -2);
            due("set " + what + " of sight -1", x.set(what, -1, 0), -2);
            due("set " + what, x.told(1, what), traitMost[what - 8]);
        }
        due("SET below RISE", x.set(11, 1, 198), -2);
        due("RISE may be SET", x.set(10, 1, 100), 199);
        due("SET may be RISE", x.set(11, 1, 100), 199);
        due("RISE above SET", x.set(10, 1, 101), -2);
        due("RISE stays", x.told(1, 10), 100);
        due("set 13", x.set(13, 0, 0), -2);
        due("set -1", x.set(-1, 0, 0), -2);
        due("another sight stays", x.told(0, 9), 44);
    }

    private static void sight() {
        promise = 3;
        AHundredSights x = new AHundredSights();
        due("kind 6", x.sight(6, 0, 0), -2);
        due("kind -1", x.sight(-1, 0, 0), -2);
        due("number 10", x.sight(0, 10, 0), -2);
        due("number -1", x.sight(0, -1, 0), -2);
        due("spot 100", x.sight(0, 0, 100), -2);
        due("spot -1", x.sight(0, 0, -1), -2);
        due("none came", x.count(0), 0);
        for (int i = 0; i < 7; i++) {
            due("sight " + i, x.sight(i % 6, 9 - i, 99 - i), i);
        }
        due("an eighth", x.sight(0, 0, 0), -4);
        due("BAD is ahead of FULL", x.sight(6, 0, 0), -2);
        due("seven stay", x.count(0), 7);
        int[] wanted = {4, 94, 0, 199, 10, 5};
        for (int what = 8; what < 14; what++) {
            due("told(5, " + what + ")", x.told(5, what), wanted[what - 8]);
        }
    }

    private static void told() {
        promise = 4;
        AHundredSights x = withSights(0, 4, 10, 1, 4, 20, 2, 4, 30, 3, 4, 40, 4, 4, 50, 5, 4, 60);
        int[] pays = {20, 24, 20, 48, 21, 20};
        for (int i = 0; i < 6; i++) {
            x.set(12, i, 20);
            due("KIND of " + i, x.told(i, 13), i);
            due("PAYS of " + i, x.told(i, 14), pays[i]);
            due("SPOT of " + i, x.told(i, 9), 10 + 10 * i);
        }
        due("of does not matter", x.told(-9, 7), 199);
        due("of does not matter", x.told(99, 1), 9);
        due("what 15", x.told(0, 15), -2);
        due("what -1", x.told(0, -1), -2);
        for (int what = 8; what < 15; what++) {
            due("told of no such sight", x.told(6, what), -2);
            due("told of sight -1", x.told(-1, what), -2);
        }
    }

    private static void shines() {
        promise = 5;
        AHundredSights x = withSights(0, 3, 15, 1, 3, 15, 2, 3, 15, 3, 3, 15, 4, 3, 15, 5, 3, 15);
        for (int i = 0; i < 6; i++) {
            x.set(10, i, 50);
            x.set(11, i, 60);
        }
        int[] first = {50, 53, 50, 53, 50, 51};
        int[] last = {60, 60, 63, 60, 63, 59};
        for (int i = 0; i < 6; i++) {
            due("ahead of the first, sight " + i, x.shines(i, first[i] - 1, 0), 0);
            due("the first, sight " + i, x.shines(i, first[i], 0), 1);
            due("the last, sight " + i, x.shines(i, last[i], 0), 1);
            due("behind the last, sight " + i, x.shines(i, last[i] + 1, 0), 0);
        }
        due("FLARING in 55", x.shines(5, 55, 0), 0);
        due("FLARING in 56", x.shines(5, 56, 0), 1);
        due("no cloud at first", x.shines(0, 100, 1), 0);
        x.set(1, 0, 5);
        x.set(2, 0, 5);
        x.set(3, 0, 70);
        x.set(4, 0, 80);
        due("within it", x.shines(0, 75, 1), 1);
        due("ahead of it", x.shines(0, 69, 1), 0);
        due("in FIRST", x.shines(0, 70, 1), 1);
        due("in LAST", x.shines(0, 80, 1), 1);
        due("behind it", x.shines(0, 81, 1), 0);
        due("it shines all the same", x.shines(0, 55, 0), 1);
        x.set(3, 0, 81);
        due("FIRST above LAST: never", x.shines(0, 81, 1), 0);
        x.set(3, 0, 80);
        x.set(1, 0, 6);
        due("LEFT above RIGHT: nowhere", x.shines(0, 80, 1), 0);
        x.set(2, 0, 9);
        due("left of the strip", x.shines(0, 80, 1), 0);
        x.set(9, 0, 96);
        due("the strip goes over all y", x.shines(0, 80, 1), 1);
        x.set(8, 5, 0);
        due("FLARING by NUMBER 0 in 51", x.shines(5, 51, 0), 1);
        due("FLARING by NUMBER 0 in 52", x.shines(5, 52, 0), 0);
        due("FLARING by NUMBER 0 in 53", x.shines(5, 53, 0), 1);
        due("tick 200", x.shines(0, 200, 0), -2);
        due("tick -1", x.shines(0, -1, 0), -2);
        due("what 2", x.shines(0, 0, 2), -2);
        due("what -1", x.shines(0, 0, -1), -2);
        due("sight 6", x.shines(6, 0, 0), -2);
        due("sight -1", x.shines(-1, 0, 0), -2);
    }

    private static void feed() {
        promise = 6;
        AHundredSights x = new AHundredSights();
        due("feed(-1)", x.feed(-1), -2);
        due("feed(256)", x.feed(256), -2);
        due("feed(0)", x.feed(0), 1);
        due("feed(255)", x.feed(255), 2);
        for (int i = 3; i <= 160; i++) {
            due("feed", x.feed(i), i);
        }
        due("a byte too many", x.feed(32), -4);
        due("BAD is ahead of FULL", x.feed(256), -2);
        due("the tape stays", x.count(2), 160);
    }

    /** The mark ^ stands ahead of the place of the FAULT and isn't fed. */
    private static void dueFault(String marked) {
        AHundredSights x = new AHundredSights();
        int place = marked.indexOf('^');
        due("text '" + marked + "'", read(x, marked.replace("^", "")), -100 - place);
        due("the tape is empty", x.count(2), 0);
        due("no text more", x.count(1), 1);
    }

    private static void dueStands(String text) {
        AHundredSights x = new AHundredSights();
        due("text '" + text + "'", read(x, text), 1);
        due("the tape is empty", x.count(2), 0);
        due("a text more", x.count(1), 2);
    }

    private static void textFaults() {
        promise = 7;
        String[] faults = {
            "^", "  \n ^", "turns far ; finds 5 ; waits 0^", "turns far ; finds 5 ; waits 0 \n^", "turns^", "turns far +^",
            "turns far ; finds 5 ; waits 0 ; ^;", "turns far ; finds 5 ; waits 0 ; ^far", "turns far;finds 5;waits 0;^!",
            "^finds 5 ; turns far ; waits 0 ;", "turns far ; ^waits 0 ; finds 5 ;", "turns ^; finds 5 ; waits 0 ;",
            "turns ^turns ;", "^far", "^5", "^;", "^turn far ;", "^turnsfar ;", "turns ^fart ;", "turns far^A;", "^Turns far ;",
            "turns ^12345 ;", "turns ^00001 ;", "turns 1 ^2 ;", "turns 1234^far ;", "turns far ^tick ;", "turns far^\t;",
            "turns far^\r;", "turns far ^/ 2 ;", "turns far ^> 2 ;", "turns far ^\u00e9 ;", "turns far ^\0", "turns ^+ 1 ;",
            "turns 1 + ^+ 1 ;", "turns 1 * ^* 1 ;", "turns 1 ^not 1 ;", "turns 1 + ^not 1 ;", "turns - ^not 1 ;",
            "turns 1 < ^not 1 ;", "turns 1 < 2 ^< 3 ;", "turns 1 < 2 ^= 3 ;", "turns 1 = 2 ^< 3 ;", "turns 1 < ^< 3 ;",
            "turns 1 or ^or 1 ;", "turns ^or 1 ;", "turns 1 and ^; ;", "turns not ^; ;", "turns 1 ^) ;", "turns ( 1 ^; finds",
            "turns (^) ;", "turns (1^", "turns ((1) ^;", "turns far ; finds ^finds", "turns far ; finds 5 ; waits ^waits",
            "turns (((((^(1)))))) ;", "turns -----^-1 ;", "turns not not not not not ^not 1 ;", "turns not (-(-^(1))) ;",
            "turns not (-(-^-1)) ;", "turns not (-((^not 1))) ;", "turns (1) + (((((^(1)))))) ;",
            "^xurns far ;", "turns ^xar ;", "turns ^fax ;", "turns ^fa ;", "turns ^farr ;", "turns number ^far ;",
            "turns far ; finds 5 ; waits 0 ; ^turns far ; finds 5 ; waits 0 ;",
        };
        for (String marked : faults) {
            dueFault(marked);
        }
        String[] standing = {
            "turns far ; finds 5 ; waits 0 ;", "turns far;finds 5;waits 0;", "\n turns\nfar ;finds 5 ; waits 0;  \n",
            "turns (((((1))))) ; finds 0000 ; waits 9999 ;", "turns -----1 ; finds 1 ; waits 1 ;",
            "turns not not not not not 1 ; finds 1 ; waits 1 ;", "turns (1)+(1)+(1)+(1)+(1)+(1) ; finds -1--1--1--1--1--1 ; waits 0 ;",
            "turns not 1 and not 1 and not 1 and not 1 and not 1 and not 1 ; finds 1 ; waits 1 ;",
            "turns (((((1-1-1))))) ; finds not(-(-1)) ; waits not 1 < 2 or not 2 = 3 ;",
            "turns tick+far+moon+number+height+order;finds tick;waits 1or 2;",
        };
        for (String text : standing) {
            dueStands(text);
        }
    }

    /** What an E tells as turns: of one SIGHT in SPOT 0, FOUND in one TICK. */
    private static void dueTurns(String e, int want) {
        AHundredSights x = withSights(0, 0, 0);
        ruleOf(x, "turns " + e + " ; finds 1 ; waits 0 ;");
        due("turns " + e, x.night(10), want);
    }

    private static void textValues() {
        String[] es = {
            "7", "50", "51", "0 - 1", "-1", "2 + 3 * 4", "2 * 3 + 4", "10 - 3 - 2", "10 - (3 - 2)", "- 3 + 10", "-(3 - 10)",
            "3 - -4", "--4", "not 0", "not 7", "not not 7", "not 0 and 0", "not (0 and 0)", "7 and 9", "7 and 0", "0 and 7",
            "0 or 0", "7 or 0", "0 or 9", "1 or 0 and 0", "(1 or 0) and 0", "0 and 0 or 1", "3 < 4", "4 < 3", "4 < 4", "4 = 4",
            "4 = 5", "not 3 < 2", "1 + 1 < 3", "1 < 1 + 1", "(1 < 2) * 9", "-1 < 0", "4096 * 4096 * 256 + 7",
            "4096 * 4096 * 128 < 0", "0009", "2 * -3 + 10", "1 and 2 and 3", "0 or 0 or 5", "5 - 2 + 1", "1 < 2 and 2 < 3",
        };
        int[] wants = {
            7, 50, 50, 0, 0, 14, 10, 5, 9, 7, 7,
            7, 4, 1, 0, 1, 0, 1, 1, 0, 0,
            0, 1, 1, 1, 0, 1, 1, 0, 0, 1,
            0, 1, 1, 1, 9, 1, 7,
            1, 9, 4, 1, 1, 4, 1,
        };
        due("as many values as texts", es.length, wants.length);
        for (int i = 0; i < es.length && i < wants.length; i++) {
            dueTurns(es[i], wants[i]);
        }
        AHundredSights x = withSights(0, 7, 36, 0, 4, 31);
        x.set(0, 0, 8);
        x.set(6, 0, 9);
        ruleOf(x, "turns tick ; finds tick ; waits 0 ;");
        due("tick: as he turns, as he has turned", x.night(10), 9 + 9 + 18 - 1);
        ruleOf(x, "turns far ; finds far ; waits 0 ;");
        due("far from where he was", x.night(10), 9 + 6 + 6 - 1);
        due("far from the one found", x.night(11), 21 + 5 + 5 - 1);
        ruleOf(x, "turns moon ; finds number ; waits 0 ;");
        due("moon, number", x.night(10), 9 + 8 + 7 - 1);
        due("moon, number", x.night(11), 24 + 8 + 4 - 1);
        ruleOf(x, "turns order ; finds height ; waits 0 ;");
        due("order, height", x.night(10), 9 + 0 + 3 - 1);
        due("order, height", x.night(11), 12 + 1 + 3 - 1);
        ruleOf(x, "turns 0 ; finds 0 - 5 ; waits 0 ;");
        due("finds 1 at least", x.night(10), 9);
        x = withSights(0, 7, 36);
        ruleOf(x, "turns 0 ; finds 100 ; waits 0 ;");
        due("finds 99 at most", x.night(10), 98);
        x.set(10, 0, 10);
        ruleOf(x, "turns 0 ; finds 1 ; waits 10 ;");
        due("waits 9 at most", x.night(0), 10 - 10 * 9);
        ruleOf(x, "turns 0 ; finds 1 ; waits - 1 ;");
        due("waits 0 at least", x.night(0), 10);
        ruleOf(x, "turns 3 ; finds 1 ; waits tick ;");
        due("waits by the tick as he has turned", x.night(0), 10 - 7 * 3);
    }

    private static void textNumbers() {
        AHundredSights x = new AHundredSights();
        for (int i = 1; i < 6; i++) {
            due("a fault takes no number", read(x, "turns"), -105);
            due("text " + i, read(x, "turns far ; finds " + i + " ; waits 0 ;"), i);
        }
        due("text() with an empty tape", x.text(), -4);
        x.feed('t');
        due("FULL is ahead of a fault", x.text(), -4);
        due("the tape stays", x.count(2), 1);
        due("six texts", x.count(1), 6);
        AHundredSights y = new AHundredSights();
        StringBuilder blanks = new StringBuilder("turns far ; finds 5 ; waits 0 ;");
        while (blanks.length() < 160) {
            blanks.append(blanks.length() % 2 == 0 ? ' ' : '\n');
        }
        due("a tape that is full", read(y, blanks.toString()), 1);
        due("an empty tape", y.text(), -100);
    }

    private static void force() {
        promise = 8;
        AHundredSights x = withSights(0, 0, 0);
        due("force(1): no such text", x.force(1), -2);
        due("force(-1)", x.force(-1), -2);
        due("force(0)", x.force(0), 0);
        due("by TEXT 0", x.night(10), 4);
        read(x, "turns 2 ; finds 3 ; waits 0 ;");
        due("a text that came isn't THE RULE", x.night(10), 4);
        due("force(1)", x.force(1), 0);
        due("by TEXT 1", x.night(10), 4);
        due("by TEXT 1", x.night(3), 5);
        read(x, "turns 7 ; finds 3 ; waits 0 ;");
        due("force(2)", x.force(2), 1);
        due("by TEXT 2", x.night(10), 9);
        due("force(6)", x.force(6), -2);
        due("THE RULE stays", x.count(3), 2);
    }

    private static void night() {
        promise = 9;
        AHundredSights x = withSights(0, 0, 3, 0, 0, 39, 0, 0, 30);
        // To 3: 3 TICKS, 3 .. 7. To 39 (x 9, y 3): 6 TICKS from 8, it rises in 20: 20 .. 24. To 30: 9 TICKS from 25, set in 33.
        x.set(10, 1, 20);
        x.set(11, 2, 33);
        ruleOf(x, "turns far ; finds 5 ; waits 2 ;");
        due("WORTH", x.night(0), 20 - 2 * 6);
        due("how many", x.night(1), 2);
        due("FOUND", x.night(2), 3);
        due("the TICK at last", x.night(3), 25);
        due("WAITED", x.night(4), 6);
        due("FOUND in", x.night(10), 7);
        due("FOUND in", x.night(11), 24);
        due("MISSED", x.night(12), -1);
        due("WAITED for it", x.night(20), 0);
        due("WAITED for it", x.night(21), 6);
        due("MISSED", x.night(22), -1);
        x.set(7, 0, 6);
        due("PATIENCE is enough", x.night(11), 24);
        x.set(7, 0, 5);
        due("PATIENCE is less", x.night(11), -1);
        due("who MISSES stays where he is: to 30 3 TICKS from 8", x.night(12), 15);
        x.set(11, 2, 15);
        due("SHINES in each of the TICKS", x.night(12), 15);
        x.set(11, 2, 14);
        due("but not in the last", x.night(12), -1);
        x.set(7, 0, 199);
        x.set(11, 2, 199);
        x.set(1, 0, 0);
        x.set(2, 0, 0);
        x.set(3, 0, 38);
        x.set(4, 0, 100);
        due("till the cloud is gone", x.night(12), 105);
        due("WAITED for it", x.night(22), 101 - 34);
        x.set(3, 0, 39);
        due("just ahead of the cloud", x.night(12), 38);
        x.set(3, 0, 34);
        x.set(4, 0, 194);
        due("the last TICK is 199", x.night(12), 199);
        due("the TICK at last", x.night(3), 200);
        x.set(4, 0, 195);
        due("none above 199", x.night(12), -1);
        AHundredSights last = withSights(0, 0, 0);
        ruleOf(last, "turns 0 ; finds 1 ; waits 4 ;");
        last.set(10, 0, 199);
        due("TICK 199 alone", last.night(10), 199);
        due("WAITED at the most", last.night(20), 199);
        last.set(6, 0, 198);
        due("one TICK of waiting costs too", last.night(0), 10 - 4);
        for (int what : new int[] {-1, 5, 6, 9, 13, 19, 23, 29, 30, 31, 100, -10, -1000000}) {
            due("night(" + what + ")", x.night(what), WRONG);
        }
        AHundredSights empty = new AHundredSights();
        due("an empty sky has no SIGHT 0", empty.night(10), WRONG);
        due("an empty sky", empty.night(0), 0);
        empty.set(6, 0, 77);
        due("he stays in the TICK", empty.night(3), 77);
    }

    private static void nightByKinds() {
        int[] finds = {9, 1};
        int[][] needs = {{9, 12, 4, 24, 10, 9}, {1, 4, 1, 8, 6, 1}};
        int[] pays = {10, 16, 10, 32, 11, 10};
        for (int f = 0; f < 2; f++) {
            for (int kind = 0; kind < 6; kind++) {
                AHundredSights x = withSights(kind, 6, 0);
                x.set(0, 0, 3);
                x.set(6, 0, 9);
                ruleOf(x, "turns 0 ; finds " + finds[f] + " ; waits 0 ;");
                due("NEEDS of kind " + kind, kind == 5 && f == 0 ? 9 : x.night(10) - 8, needs[f][kind]);
                due("PAYS of kind " + kind, kind == 5 && f == 0 ? 10 : x.night(0), pays[kind]);
            }
        }
        AHundredSights x = withSights(5, 6, 0);
        x.set(6, 0, 3);
        ruleOf(x, "turns 0 ; finds 7 ; waits 0 ;");
        due("FLARING: from 9 on, 16 flares", x.night(10), 15);
        x.set(8, 0, 5);
        due("FLARING: never so long", x.night(10), -1);
        x = withSights(4, 0, 0);
        ruleOf(x, "turns 0 ; finds 1 ; waits 0 ;");
        due("NEEDS 1 at least", x.night(10), 0);
    }

    private static void order() {
        promise = 10;
        AHundredSights x = withSights(0, 0, 9, 0, 0, 0);
        row(x, 0, 0, 1, 0);
        due("the far one last", x.order(0, 10), 18);
        due("the near one first", x.order(0, 11), 4);
        due("PLAIN", x.night(10), 13);
        due("PLAIN", x.night(11), 27);
        due("WORTH", x.order(0, 0), 20);
        due("how many", x.order(0, 1), 2);
        due("FOUND", x.order(0, 2), 3);
        due("at last", x.order(0, 3), 19);
        due("WAITED", x.order(0, 4), 0);
        due("WAITED for it", x.order(0, 21), 0);
        ruleOf(x, "turns order * 7 ; finds 1 ; waits 0 ;");
        due("order goes by the SHEET", x.order(0, 10), 8);
        row(x, 1, 1, 0, 0);
        due("one twice", x.order(1, 0), WRONG);
        row(x, 1, 1, 0, 2);
        due("no such SIGHT in it", x.order(1, 0), WRONG);
        row(x, 1, 2, 0, -1);
        due("no such SIGHT in it", x.order(1, 0), WRONG);
        row(x, 1, 2, 0);
        due("too few", x.order(1, 0), WRONG);
        row(x, 1, 2, 0, 1, 1);
        due("too many", x.order(1, 0), WRONG);
        row(x, 1, 2, 0, 1);
        due("as PLAIN", x.order(1, 0), x.night(0));
        due("a missing SHEET", x.order(2, 0), WRONG);
        due("SHEET 4", x.order(4, 0), WRONG);
        due("SHEET -1", x.order(-1, 0), WRONG);
        for (int what : new int[] {-1, 5, 9, 12, 22, 30}) {
            due("order(1, " + what + ")", x.order(1, what), WRONG);
        }
        AHundredSights empty = new AHundredSights();
        due("an empty sky, a missing SHEET", empty.order(0, 0), WRONG);
        row(empty, 0, 0);
        due("an empty sky, an empty SHEET", empty.order(0, 0), 0);
    }

    private static void best() {
        promise = 11;
        AHundredSights x = withSights(0, 0, 0, 0, 0, 0, 0, 0, 0);
        due("of like ones the first", x.best(1), 123);
        x.set(11, 2, 4);
        due("the third must come first", x.best(1), 312);
        due("WORTH", x.best(0), 30);
        x.set(11, 1, 4);
        x.set(12, 1, 11);
        due("one of two: the better one; of likes the first", x.best(1), 213);
        due("WORTH", x.best(0), 21);
        ruleOf(x, "turns 0 ; finds 5 ; waits 9 ;");
        x.set(10, 0, 9);
        x.set(12, 0, 0);
        due("waiting may cost more than it pays", x.best(0), 11 - 9 * 4);
        due("so by both orders: the last two MISSED", x.best(1), 213);
        due("what 2", x.best(2), WRONG);
        due("what -1", x.best(-1), WRONG);
        due("an empty sky", new AHundredSights().best(1), 0);
        due("an empty sky", new AHundredSights().best(0), 0);
    }

    private static void setting() {
        promise = 12;
        AHundredSights x = withSights(0, 0, 0, 2, 9, 0, 0, 0, 0, 0, 0, 0);
        due("of like ones by numbers", x.setting(1), 1234);
        x.set(11, 1, 14);
        x.set(11, 3, 14);
        x.set(11, 2, 9);
        due("by SET", x.setting(1), 3241);
        due("WORTH: 2 in 4, 1 in 6, 3 in 11, 0 in 16", x.setting(0), 40);
        x.set(11, 3, 10);
        due("by SET, not by the last TICK that it SHINES", x.setting(1), 3421);
        x.set(11, 3, 8);
        due("by SET", x.setting(1), 4321);
        x.set(11, 0, 0);
        due("one that can't be FOUND", x.setting(1), 1432);
        due("WORTH without it", x.setting(0), 30);
        due("what 2", x.setting(2), WRONG);
        due("what -1", x.setting(-1), WRONG);
        due("an empty sky", new AHundredSights().setting(1), 0);
    }

    private static void late() {
        promise = 13;
        AHundredSights x = withSights(0, 0, 0, 0, 0, 9);
        // 5 TICKS, 9 to turn, 5 again: 19 TICKS, the last of them SET.
        due("till TICK 199", x.late(), 181);
        x.set(11, 1, 100);
        due("till TICK 100", x.late(), 82);
        x.set(6, 0, 90);
        due("now one is FOUND", x.late(), 195);
        x.set(6, 0, 198);
        due("now none is FOUND", x.late(), 199);
        due("what he begins in stays", x.told(0, 6), 198);
        due("an empty sky", new AHundredSights().late(), 199);
    }

    private static void sleep() {
        promise = 14;
        AHundredSights x = withSights(0, 0, 0, 0, 0, 0, 0, 0, 0);
        due("of like ones the first", x.sleep(50, 0), 0);
        x.set(11, 0, 4);
        due("behind the first", x.sleep(50, 0), 1);
        due("WORTH", x.sleep(50, 1), 30);
        x.set(11, 1, 9);
        x.set(11, 2, 14);
        due("behind all", x.sleep(1, 0), 3);
        due("WORTH", x.sleep(1, 1), 30);
        x.set(10, 1, 7);
        x.set(11, 1, 11);
        x.set(11, 2, 20);
        ruleOf(x, "turns 0 ; finds 5 ; waits 3 ;");
        due("asleep he doesn't wait", x.sleep(2, 0), 1);
        due("WORTH then", x.sleep(2, 1), 30);
        due("WORTH now", x.night(0), 30 - 6);
        due("n 99", x.sleep(99, 0), 3);
        due("n 0", x.sleep(0, 0), WRONG);
        due("n 100", x.sleep(100, 1), WRONG);
        due("what 2", x.sleep(1, 2), WRONG);
        due("what -1", x.sleep(1, -1), WRONG);
    }

    private static void moon() {
        promise = 15;
        AHundredSights x = withSights(1, 0, 0);
        x.set(0, 0, 7);
        due("of like ones the least", x.moon(0), 0);
        x.set(10, 0, 20);
        ruleOf(x, "turns moon * 2 ; finds 5 ; waits 1 ;");
        due("the later he comes, the less he waits", x.moon(0), 9);
        due("WORTH then", x.moon(1), 10 - 2);
        x.set(11, 0, 29);
        due("but not too dark", x.moon(0), 5);
        due("WORTH then", x.moon(1), 10 - 10);
        due("the MOON stays", x.told(0, 0), 7);
        due("what 2", x.moon(2), WRONG);
        due("what -1", x.moon(-1), WRONG);
    }

    private static void leave() {
        promise = 16;
        AHundredSights x = withSights(0, 0, 0, 0, 0, 0, 0, 0, 0);
        due("none: no more than now", x.leave(0), -1);
        due("as now", x.leave(1), 30);
        x.set(12, 0, 3);
        x.set(12, 1, 3);
        x.set(11, 2, 9);
        due("one of two: of like ones the first", x.leave(0), 0);
        due("WORTH then", x.leave(1), 13);
        x.set(12, 0, 4);
        due("the one that pays less", x.leave(0), 1);
        due("WORTH then", x.leave(1), 14);
        x.set(12, 0, 10);
        x.set(12, 1, 10);
        due("one instead of another pays no more", x.leave(0), -1);
        due("as now", x.leave(1), 20);
        ruleOf(x, "turns order * 40 ; finds 5 ; waits 0 ;");
        x.set(11, 2, 98);
        x.set(11, 1, 49);
        x.set(11, 0, 2);
        x.set(12, 2, 20);
        // All: 0 MISSED, 1 in 44, 2 not from 95 on (50 is the bound). Without 0: 1 in 4, 2 in 49. Without 1: 2 in 44.
        due("order of those that are left", x.leave(1), 30);
        due("which one", x.leave(0), 0);
        due("what 2", x.leave(2), WRONG);
        due("what -1", x.leave(-1), WRONG);
        due("an empty sky", new AHundredSights().leave(0), -1);
    }

    private static void two() {
        promise = 17;
        AHundredSights x = withSights(0, 0, 0, 0, 0, 0, 0, 0, 0);
        due("of like ones the least: none of them", x.two(0), 0);
        due("together", x.two(1), 30);
        x.set(11, 0, 4);
        x.set(11, 1, 4);
        due("each finds one", x.two(0), 1);
        due("together", x.two(1), 30);
        x.set(11, 2, 9);
        due("either way", x.two(0), 1);
        x.set(11, 1, 14);
        x.set(10, 1, 10);
        // 2 is MISSED by who has waited for 1, but not by who has found 0.
        due("1 by one, 0 and 2 by the other", x.two(0), 2);
        due("together", x.two(1), 30);
        x.set(10, 1, 0);
        x.set(11, 1, 4);
        x.set(11, 2, 4);
        due("three for two", x.two(1), 20);
        due("the least that goes", x.two(0), 1);
        ruleOf(x, "turns order * 9 ; finds 5 ; waits 0 ;");
        x.set(11, 1, 199);
        // 2 can be FOUND by who finds it first alone.
        due("order of each one's own", x.two(1), 30);
        due("the set", x.two(0), 3);
        due("what 2", x.two(2), WRONG);
        due("what -1", x.two(-1), WRONG);
        due("an empty sky", new AHundredSights().two(0), 0);
    }

    private static void cloud() {
        promise = 18;
        AHundredSights x = withSights(0, 0, 5, 0, 0, 45);
        due("none at first", x.cloud(), 0);
        x.set(1, 0, 5);
        x.set(2, 0, 5);
        x.set(3, 0, 0);
        x.set(4, 0, 190);
        due("one is FOUND behind it", x.cloud(), 10);
        x.set(4, 0, 199);
        due("both are lost", x.cloud(), 20);
        due("the cloud stays", x.shines(0, 199, 1), 1);
        x.set(4, 0, 20);
        x.set(11, 1, 18);
        x.set(12, 1, 3);
        x.set(10, 0, 40);
        ruleOf(x, "turns 0 ; finds 5 ; waits 1 ;");
        // With it 0 in 40 .. 44. Without it the same: PLAIN, 1 is behind 0.
        due("it costs nothing", x.cloud(), 0);
        x.set(9, 0, 4);
        x.set(10, 0, 0);
        x.set(10, 1, 10);
        // With it 0 in 0 .. 4, 1 MISSED. Without it 1 from 5 on, WAITED 5: pays 3.
        due("it saves waiting", x.cloud(), -2);
    }

    private static void lists() {
        promise = 19;
        AHundredSights x = withSights(0, 0, 0, 0, 0, 9);
        x.set(10, 0, 3);
        row(x, 0, 2, 7, 21);
        due("all are so", x.lists(0, 0), 0);
        // From any SPOT no more than 3 FAR from 0: 4 by 4.
        due("SPOTS", x.lists(0, 1), 16);
        due("the least", x.lists(0, 2), 0);
        due("MOONS", x.lists(0, 3), 1023);
        due("TEXTS", x.lists(0, 4), 1);
        read(x, "turns far ; finds 4 + order * 0 ; waits 1 ;");
        read(x, "turns far ; finds 5 + 0 * tick ; waits 1 ;");
        due("TEXTS", x.lists(0, 4), 5);
        due("KINDS of 0: FAINT by NUMBER 0, too", x.lists(0, 10), 3);
        due("KINDS of 1", x.lists(0, 11), 3);
        due("NUMBERS of 0", x.lists(0, 20), 1023);
        x.set(13, 0, 1);
        row(x, 0, 1, 7, 20);
        due("one isn't so", x.lists(0, 0), 2);
        due("no SPOT", x.lists(0, 1), 0);
        due("no SPOT", x.lists(0, 2), -1);
        due("no MOON", x.lists(0, 3), 0);
        due("no TEXT", x.lists(0, 4), 0);
        row(x, 0, 1, -1, -1);
        due("both were FOUND", x.lists(0, 0), 3);
        AHundredSights y = withSights(1, 2, 99);
        y.set(0, 0, 4);
        y.set(10, 0, 20);
        row(y, 3, 0, 30);
        due("it rises 2 later: 22 .. 30", y.lists(3, 0), 0);
        due("whence he comes doesn't matter", y.lists(3, 1), 100);
        due("the MOON does", y.lists(3, 3), 1 << 4);
        due("KINDS", y.lists(3, 10), 1 << 1);
        due("NUMBERS", y.lists(3, 20), 1 << 2);
        row(y, 3, 0, 26);
        due("a darker one", y.lists(3, 3), 1);
        due("LOST by MOON 4 in 39", y.lists(3, 10), 0);
        row(y, 3, 0, 39);
        due("LOST", y.lists(3, 10), 1 << 3);
        row(y, 3, 0, 200);
        due("bytes are what they are: -56", y.lists(3, 0), 1);
        y.set(11, 0, 24);
        row(y, 3, 0, -1);
        due("MISSED", y.lists(3, 0), 0);
        due("MISSED by any SPOT", y.lists(3, 1), 100);
        due("KINDS: a SIGHT is FOUND in 24", y.lists(3, 10), 1 << 1 | 1 << 3 | 1 << 5);
        due("BRIGHT and DOUBLE are FOUND", y.lists(3, 10) & (1 << 2 | 1 << 4), 0);
        due("all stays", y.told(0, 13) * 100 + y.told(0, 8) * 10 + y.told(0, 0), 124);
        for (int what : new int[] {-1, 5, 9, 11, 19, 21, 29, 30}) {
            due("lists(3, " + what + ")", y.lists(3, what), -2);
        }
        due("SHEET 4", y.lists(4, 0), -2);
        due("SHEET -1", y.lists(-1, 0), -2);
        due("a missing one", y.lists(2, 0), -11);
        due("what is looked at ahead of that", y.lists(2, 5), -2);
        y.sheet(2, 0, 2);
        due("too long", y.lists(2, 0), -2);
        y.sheet(2, 0, 0);
        due("too short", y.lists(2, 0), -2);
    }

    private static void film() {
        promise = 20;
        AHundredSights x = withSights(0, 0, 0, 0, 0, 0, 0, 0, 0);
        x.set(11, 1, 8);
        x.set(10, 2, 190);
        due("film(3)", x.film(3), 3);
        x.sheet(0, 1, 1);
        int[] wants = {4, -1, 194};
        for (int i = 0; i < 3; i++) {
            row(x, 1, 1, 0, 0, 0);
            due("it is of shorts", x.copy(3, 0, 1, 0, 3), 3);
            x.cell(3, i, wants[i]);
            due("as it was", x.lists(3, 0), 0);
            x.cell(3, i, wants[i] + 1);
            due("as it was", x.lists(3, 0), 1 << i);
            due("copied", x.copy(1, 0, 3, 0, 3), 3);
        }
        due("it has no item more", x.cell(3, 3, 0), -12);
        row(x, 2, 0, 1, 2, 3, 4, 5, 6);
        due("a SHEET that was of bytes", x.film(2), 3);
        due("all is so", x.lists(2, 0), 0);
        due("SHEET 4", x.film(4), -2);
        due("SHEET -1", x.film(-1), -2);
        AHundredSights empty = new AHundredSights();
        due("an empty sky", empty.film(0), 0);
        due("the SHEET is there", empty.cell(0, 0, 0), -12);
    }

    /** The cloud of a seed, laid over a sky by hand. */
    private static int worthByHand(AHundredSights x, int seed) {
        int z = seed;
        for (int what = 1; what <= 4; what++) {
            z = z * 1103515245 + 12345;
            x.set(what, 0, (z >>> 9) % (what < 3 ? 10 : 200));
        }
        return x.night(0);
    }

    private static AHundredSights forClouds() {
        AHundredSights x = withSights(0, 0, 22, 1, 3, 47, 2, 2, 75, 3, 1, 68);
        for (int i = 0; i < 4; i++) {
            x.set(11, i, 40 + 10 * i);
        }
        read(x, "turns far ; finds 7 ; waits 1 ;");
        x.force(1);
        return x;
    }

    private static void drawn() {
        promise = 21;
        AHundredSights x = forClouds();
        for (int seed : new int[] {0, 1, 2, 3, 5, 8, 13, -1, -77, 123456789, 2147483647, -2147483647 - 1}) {
            due("drawn(" + seed + ")", x.drawn(seed), worthByHand(forClouds(), seed));
        }
        dueDials(x, 0, 9, 0, 199, 0);
        due("an empty sky", new AHundredSights().drawn(4), 0);
    }

    private static void chance() {
        promise = 22;
        AHundredSights x = forClouds();
        x.set(1, 0, 0);
        x.set(2, 0, 9);
        x.set(3, 0, 0);
        x.set(4, 0, 199);
        int bound = forClouds().night(0);
        for (int seed : new int[] {0, 40, -9, 2147483640}) {
            for (int n : new int[] {1, 2, 12, 20}) {
                int good = 0;
                for (int i = 0; i < n; i++) {
                    good += worthByHand(forClouds(), seed + i) >= bound ? 1 : 0;
                }
                long above = x.chance(seed, n, 0);
                long below = x.chance(seed, n, 1);
                due("as many of " + n, above * n, good * below);
                due("lowest terms", java.math.BigInteger.valueOf(above).gcd(java.math.BigInteger.valueOf(below)).intValue(), 1);
            }
        }
        due("n 0", x.chance(0, 0, 0), AHundredSights.NO);
        due("n 21", x.chance(0, 21, 0), AHundredSights.NO);
        due("n -1", x.chance(0, -1, 1), AHundredSights.NO);
        due("part 2", x.chance(0, 1, 2), AHundredSights.NO);
        due("part -1", x.chance(0, 1, -1), AHundredSights.NO);
    }

    private static void image() {
        promise = 23;
        AHundredSights x = new AHundredSights();
        due("of an empty sky", x.image(), 0);
        x.sight(0, 0, 0);
        due("back to it", x.back(), 0);
        due("the SIGHT is gone", x.count(0), 0);
        x.sight(1, 2, 3);
        due("another one", x.image(), 1);
        x.sight(0, 0, 0);
        x.set(0, 0, 5);
        due("the later one holds", x.image(), 2);
        x.set(0, 0, 6);
        due("back to it", x.back(), 2);
        due("MOON", x.told(0, 0), 5);
    }

    private static void back() {
        promise = 24;
        AHundredSights x = withSights(2, 4, 33);
        due("no IMAGE", x.back(), -3);
        read(x, "turns 1 ; finds 1 ; waits 0 ;");
        x.force(1);
        int[] values = {4, 3, 7, 20, 30, 55, 66, 77};
        for (int what = 0; what < 8; what++) {
            x.set(what, 0, values[what]);
        }
        x.set(11, 0, 150);
        x.set(10, 0, 50);
        x.set(12, 0, 8);
        due("image()", x.image(), 1);
        int nightThen = x.night(10);
        x.set(12, 0, 80);
        for (int round = 0; round < 2; round++) {
            for (int what = 0; what < 8; what++) {
                x.set(what, 0, 1);
            }
            x.set(8, 0, 1);
            x.set(9, 0, 1);
            x.set(10, 0, 1);
            x.set(11, 0, 1);
            x.sight(5, 5, 5);
            x.force(0);
            read(x, "turns 2 ; finds 1 ; waits 0 ;");
            x.feed('t');
            row(x, 0, 0, 9);
            due("back()", x.back(), 1);
            dueDials(x, values);
            int[] traits = {4, 33, 50, 150, 8, 2, 8};
            for (int what = 8; what < 15; what++) {
                due("told(0, " + what + ")", x.told(0, what), traits[what - 8]);
            }
            due("the SIGHT that came is gone", x.count(0), 1);
            due("THE RULE", x.count(3), 1);
            due("texts stay", x.count(1), 3 + round);
            due("THE TAPE stays", x.count(2), 1);
            due("SHEETS stay", x.cell(0, 0, 9), 1);
            due("the night is as it was", x.night(10), nightThen);
            x.text();
        }
        due("the number is given anew", x.sight(0, 1, 2), 1);
        due("and comes as new", x.told(1, 11), 199);
    }

    private static void count() {
        promise = 25;
        AHundredSights x = withSights(0, 0, 0, 0, 0, 0);
        read(x, "turns 2 ; finds 1 ; waits 0 ;");
        x.force(1);
        x.feed('a');
        x.feed('b');
        x.feed('c');
        due("SIGHTS", x.count(0), 2);
        due("TEXTS", x.count(1), 2);
        due("bytes", x.count(2), 3);
        due("THE RULE", x.count(3), 1);
        due("count(4)", x.count(4), -2);
        due("count(-1)", x.count(-1), -2);
    }

    private static void sheet() {
        promise = 26;
        AHundredSights x = withSights(0, 0, 0);
        due("SHEET 4", x.sheet(4, 0, 1), -2);
        due("SHEET -1", x.sheet(-1, 0, 1), -2);
        due("sort 3", x.sheet(0, 3, 1), -2);
        due("sort -2", x.sheet(0, -2, 1), -2);
        due("n 41", x.sheet(0, 0, 41), -2);
        due("n -1", x.sheet(0, 0, -1), -14);
        due("sort is looked at ahead of n", x.sheet(0, 3, -1), -2);
        due("it is missing still", x.cell(0, 0, 0), -11);
        due("n 40", x.sheet(0, 2, 40), 1);
        due("the last item", x.cell(0, 39, 1), 1);
        due("none behind it", x.cell(0, 40, 1), -12);
        due("n 0", x.sheet(0, 2, 0), 1);
        due("no item", x.cell(0, 0, 1), -12);
        row(x, 0, 2, 4);
        due("4 is in it", x.lists(0, 0), 0);
        due("a new row", x.sheet(0, 2, 1), 1);
        due("4 isn't in it", x.lists(0, 0), 1);
        due("all 0: it tells SIGHT 0", x.order(0, 1), 1);
        due("-14 changes nothing", x.sheet(0, 2, -7), -14);
        due("it is there", x.cell(0, 0, 4), 1);
        due("missing: n does not matter", x.sheet(0, -1, -7), 1);
        due("it is missing", x.cell(0, 0, 4), -11);
        due("missing: n does not matter", x.sheet(0, -1, 99), 1);
    }

    private static void cell() {
        promise = 27;
        AHundredSights x = withSights(0, 0, 0);
        due("SHEET 4", x.cell(4, 0, 0), -2);
        due("SHEET -1", x.cell(-1, 0, 0), -2);
        due("missing", x.cell(0, 0, 0), -11);
        int[] stored = {4 + 256, 4 + 65536, 4};
        int[] cut = {4 + 128, 4 + 256, 4 + 65536};
        for (int sort = 0; sort < 3; sort++) {
            row(x, 0, sort, stored[sort]);
            due("its lowest bits", x.lists(0, 0), 0);
            row(x, 0, sort, cut[sort]);
            due("no more than they", x.lists(0, 0), 1);
        }
        due("item -1", x.cell(0, -1, 0), -12);
        due("item 1", x.cell(0, 1, 0), -12);
        x.set(11, 0, 1);
        row(x, 0, 0, 255);
        due("255 of bytes is -1", x.lists(0, 0), 0);
        row(x, 0, 1, 65535);
        due("65535 of shorts is -1", x.lists(0, 0), 0);
    }

    private static void copy() {
        promise = 28;
        AHundredSights x = withSights(0, 0, 0, 0, 0, 0, 0, 0, 0);
        row(x, 0, 1, 0, 1, 2, 0);
        row(x, 1, 1, 0, 0, 0);
        row(x, 2, 2, 0, 0, 0);
        due("copy", x.copy(0, 0, 1, 0, 3), 3);
        due("they came", x.order(1, 1), 3);
        due("not beyond", x.copy(0, 2, 0, 1, 3), -12);
        due("on itself", x.copy(0, 0, 0, 1, 3), 3);
        due("as they were", x.copy(0, 1, 1, 0, 3), 3);
        due("as they were", x.order(1, 1), 3);
        due("on itself, down", x.copy(0, 1, 0, 0, 3), 3);
        due("as they were", x.copy(0, 0, 1, 0, 3), 3);
        due("as they were", x.order(1, 1), 3);
        due("none", x.copy(0, 4, 1, 3, 0), 0);
        due("none from outside", x.copy(0, 5, 1, 0, 0), -12);
        due("none to outside", x.copy(0, 0, 1, 4, 0), -12);
        due("n -1", x.copy(0, 0, 1, 0, -1), -12);
        due("i -1", x.copy(0, -1, 1, 0, 1), -12);
        due("j -1", x.copy(0, 0, 1, -1, 1), -12);
        due("too many there", x.copy(0, 0, 1, 0, 4), -12);
        due("too many here", x.copy(0, 2, 1, 0, 3), -12);
        due("far too many", x.copy(0, 1, 1, 0, 2147483647), -12);
        due("far outside", x.copy(0, 2147483647, 1, 0, 2147483647), -12);
        due("unlike sorts", x.copy(0, 0, 2, 0, 1), -13);
        due("ahead of the place", x.copy(0, 9, 2, 0, 1), -13);
        due("missing", x.copy(0, 0, 3, 0, 1), -11);
        due("missing", x.copy(3, 0, 2, 9, -1), -11);
        due("SHEET 4", x.copy(0, 0, 4, 0, 1), -2);
        due("SHEET 4", x.copy(4, 0, 3, 0, 1), -2);
        due("SHEET -1", x.copy(-1, 0, 0, 0, 1), -2);
        due("SHEET -1", x.copy(0, 0, -1, 0, 1), -2);
        due("refused ones change nothing", x.order(1, 1), 3);
    }

    private static void sights() {
        promise = 29;
        AHundredSights x = new AHundredSights();
        row(x, 0, 0, 9, 3, 2, 99, 1, 1, 1, 6, 0, 0, 5, 5);
        due("from item 1 on", x.sights(0, 0, 1, 3), 2);
        due("SIGHT 0", x.told(0, 13) * 10000 + x.told(0, 8) * 100 + x.told(0, 9), 30299);
        due("SIGHT 1", x.told(1, 13) * 10000 + x.told(1, 8) * 100 + x.told(1, 9), 10101);
        due("-12: what stood ahead came", x.sights(0, 0, 4, 7), -12);
        due("what stood ahead came", x.count(0), 3);
        due("two items of three", x.sights(0, 0, 10, 1), -12);
        due("the last three: 0, 5, 5", x.sights(0, 0, 9, 1), 1);
        due("from -1", x.sights(0, 0, -1, 1), -12);
        due("from far outside", x.sights(0, 0, 2147483647, 1), -12);
        due("none", x.sights(0, 0, 2147483647, 0), 0);
        due("another sort", x.sights(0, 1, 0, 1), -13);
        due("another sort, none", x.sights(0, 2, 0, 0), -13);
        due("missing", x.sights(1, 2, 0, 1), -11);
        due("missing, none", x.sights(1, 0, 0, 0), -11);
        due("SHEET 4", x.sights(4, 0, 0, 1), -2);
        due("SHEET -1", x.sights(-1, 0, 0, 1), -2);
        due("sort 3", x.sights(0, 3, 0, 1), -2);
        due("sort -1", x.sights(0, -1, 0, 1), -2);
        due("n 8", x.sights(0, 0, 0, 8), -2);
        due("n -1", x.sights(0, 0, 0, -1), -2);
        due("none of these came", x.count(0), 4);
        x.sheet(2, 2, 40);
        due("those for whom there is room", x.sights(2, 2, 0, 7), 3);
        due("FULL", x.count(0), 7);
        due("others are left out", x.sights(2, 2, 0, 7), 0);
        due("the place is looked at all the same", x.sights(2, 2, 30, 4), -12);
    }

    private static void taken() {
        promise = 30;
        AHundredSights x = withSights(0, 9, 0, 1, 8, 0, 2, 7, 0, 3, 6, 0, 4, 5, 0, 5, 4, 0);
        String[] under = {"100000", "110000", "101000", "110100", "101010", "100001"};
        for (int sight = 0; sight < 6; sight++) {
            for (int k = 0; k < 6; k++) {
                due("taken(" + sight + ", " + k + ")", x.taken(sight, k), under[sight].charAt(k) == '1' ? 9 - sight : -13);
            }
        }
        due("no such SIGHT", x.taken(6, 0), -11);
        due("no such SIGHT", x.taken(-1, 0), -11);
        due("KIND 6", x.taken(0, 6), -2);
        due("KIND -1, ahead of -11", x.taken(9, -1), -2);
    }
}
