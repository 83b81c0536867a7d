// Each sentence of the document that names a boundary of SHEETS, of the host's refusals and of what a call
// may be at all: Terms, block 3; promises 26 to 30; the 512 calls.
public final class HostBoundaryTest {
    private static final Runs RUNS = new Runs();
    private static final int LEAST = -2147483648, MOST = 2147483647;

    public static void main(String[] args) {
        sheet();
        sheetsRefused();
        cell();
        itsLowestBits();
        copy();
        copiesRefused();
        copiesRefusedInWhichOrder();
        sights();
        sightsRefused();
        sightsOfWhichSomeCome();
        taken();
        theLastCall();
        anyArguments();
        RUNS.end();
    }

    private static void sheet() {
        RUNS.of("SHEETS 0 .. 3 are rows of numbers, or missing (as all are at first)", """
            cell(0, 0, 0) = -11; cell(1, 0, 0) = -11; cell(2, 0, 0) = -11; cell(3, 0, 0) = -11
            cell(-1, 0, 0) = BAD; cell(4, 0, 0) = BAD
            sheet(-1, 0, 1) = BAD; sheet(0, 0, 1) = 1; sheet(3, 0, 1) = 1; sheet(4, 0, 1) = BAD
            cell(0, 0, 0) = 1; cell(1, 0, 0) = -11; cell(3, 0, 0) = 1
            """);
        RUNS.of("of sort 0 bytes, 1 shorts, 2 ints", """
            sheet(0, -2, 1) = BAD; sheet(0, 0, 1) = 1; sheet(1, 1, 1) = 1; sheet(2, 2, 1) = 1; sheet(0, 3, 1) = BAD
            sights(0, 0, 0, 0) = 0; sights(1, 1, 0, 0) = 0; sights(2, 2, 0, 0) = 0
            """);
        RUNS.of("26: a row of n: n above 40; -14", """
            sheet(0, 0, -1) = -14; sheet(0, 0, 41) = BAD; cell(0, 0, 0) = -11
            sheet(0, 0, 0) = 1; cell(0, 0, 0) = -12; sheet(0, 0, 1) = 1; cell(0, 0, 0) = 1; cell(0, 1, 0) = -12
            sheet(0, 2, 40) = 1; cell(0, 39, 0) = 1; cell(0, 40, 0) = -12
            sheet(0, 1, -1) = -14; sheet(0, 1, 41) = BAD; cell(0, 39, 0) = 1
            sheet(0, 0, 2147483647) = BAD; sheet(0, 0, -2147483648) = -14; cell(0, 39, 0) = 1
            """);
        RUNS.of("26: all 0, also where it was a row ahead", """
            sight(0, 0, 0) = 0; sight(0, 0, 0) = 1
            row 0 1 = 4 9
            lists(0, 0) = 0; sheet(0, 1, 2) = 1; lists(0, 0) = 3
            rule "turns 0 ; finds 1 ; waits 0 ;"
            lists(0, 0) = 2; sheet(0, 1, 3) = 1; sheet(0, 1, 2) = 1; lists(0, 0) = 2
            """);
        RUNS.of("26: or missing (sort -1: n does not matter): 1", """
            sheet(0, 0, 1) = 1; sheet(0, -1, 1) = 1; cell(0, 0, 0) = -11
            sheet(0, 0, 1) = 1; sheet(0, -1, -1) = 1; cell(0, 0, 0) = -11
            sheet(0, 0, 1) = 1; sheet(0, -1, 41) = 1; cell(0, 0, 0) = -11
            sheet(0, -1, 2147483647) = 1; sheet(0, -1, -2147483648) = 1; cell(0, 0, 0) = -11
            """);
    }

    private static void sheetsRefused() {
        RUNS.of("26: BAD: no such SHEET, sort, ahead of -14", """
            sheet(4, 0, -1) = BAD; sheet(-1, 0, -1) = BAD; sheet(4, -1, 0) = BAD; sheet(-1, -1, 0) = BAD
            sheet(0, 3, -1) = BAD; sheet(0, -2, -1) = BAD; sheet(4, 3, 41) = BAD
            sheet(2147483647, 0, 0) = BAD; sheet(-2147483648, 0, 0) = BAD
            sheet(0, 2147483647, 0) = BAD; sheet(0, -2147483648, 0) = BAD; cell(0, 0, 0) = -11
            """);
    }

    private static void cell() {
        RUNS.of("27: Item i of a SHEET becomes v: -12", """
            sight(0, 0, 0) = 0; sight(0, 0, 0) = 1
            row 0 2 = 4 9
            cell(0, -1, 7) = -12; cell(0, 2, 7) = -12; cell(0, 2147483647, 7) = -12; cell(0, -2147483648, 7) = -12
            lists(0, 0) = 0; cell(0, 0, 3) = 1; lists(0, 0) = 1; cell(0, 1, 3) = 1; lists(0, 0) = 3
            row 0 2 =
            cell(0, 0, 0) = -12
            """);
        RUNS.of("27: BAD: no such SHEET; -11; -12: in this order", """
            row 3 0 = 1
            cell(-1, -1, 0) = BAD; cell(4, 9, 0) = BAD; cell(2147483647, 0, 0) = BAD; cell(-2147483648, 0, 0) = BAD
            cell(0, -1, 0) = -11; cell(0, 9, 0) = -11; cell(3, 1, 0) = -12; cell(3, 0, 2147483647) = 1
            """);
    }

    /** One SIGHT that is FOUND in TICK 4, then MISSED (-1): what of v is an item like them. */
    private static void itsLowestBits() {
        RUNS.of("27: of bytes its lowest 8 bits", """
            sight(0, 0, 0) = 0; sheet(0, 0, 1) = 1
            cell(0, 0, 4) = 1; lists(0, 0) = 0; cell(0, 0, 260) = 1; lists(0, 0) = 0; cell(0, 0, 132) = 1; lists(0, 0) = 1
            cell(0, 0, -252) = 1; lists(0, 0) = 0; cell(0, 0, 65540) = 1; lists(0, 0) = 0
            set(11, 0, 3) = 199; cell(0, 0, 255) = 1; lists(0, 0) = 0; cell(0, 0, -1) = 1; lists(0, 0) = 0
            cell(0, 0, 127) = 1; lists(0, 0) = 1; set(11, 0, 199) = 3; set(6, 0, 123) = 0; lists(0, 0) = 0
            set(6, 0, 124) = 123; cell(0, 0, 128) = 1; lists(0, 0) = 1; cell(0, 0, -128) = 1; lists(0, 0) = 1
            """);
        RUNS.of("27: of shorts its lowest 16 bits", """
            sight(0, 0, 0) = 0; sheet(0, 1, 1) = 1
            cell(0, 0, 4) = 1; lists(0, 0) = 0; cell(0, 0, 65540) = 1; lists(0, 0) = 0; cell(0, 0, 260) = 1; lists(0, 0) = 1
            cell(0, 0, 32772) = 1; lists(0, 0) = 1; cell(0, 0, -65532) = 1; lists(0, 0) = 0
            set(11, 0, 3) = 199; cell(0, 0, 65535) = 1; lists(0, 0) = 0; cell(0, 0, 255) = 1; lists(0, 0) = 1
            cell(0, 0, -1) = 1; lists(0, 0) = 0; cell(0, 0, 131071) = 1; lists(0, 0) = 0
            set(11, 0, 199) = 3; set(6, 0, 195) = 0; cell(0, 0, 199) = 1; lists(0, 0) = 0
            """);
        RUNS.of("27: of ints all of v", """
            sight(0, 0, 0) = 0; sheet(0, 2, 1) = 1
            cell(0, 0, 4) = 1; lists(0, 0) = 0; cell(0, 0, 65540) = 1; lists(0, 0) = 1; cell(0, 0, -2147483644) = 1; lists(0, 0) = 1
            set(11, 0, 3) = 199; cell(0, 0, -1) = 1; lists(0, 0) = 0; cell(0, 0, 65535) = 1; lists(0, 0) = 1
            cell(0, 0, 2147483647) = 1; lists(0, 0) = 1
            """);
    }

    private static void copy() {
        RUNS.of("28: n numbers of a SHEET, from item i on, come to another one's item j on: n", """
            sight(0, 0, 0) = 0; sight(0, 0, 0) = 1; sight(0, 0, 0) = 2
            row 0 0 = 99 4 9 14 99
            row 1 0 = 0 0 0
            copy(0, 1, 1, 0, 3) = 3; lists(1, 0) = 0
            row 1 0 = 0 0 0
            copy(0, 2, 1, 1, 2) = 2; lists(1, 0) = 1; copy(0, 1, 1, 0, 1) = 1; lists(1, 0) = 0
            copy(0, 0, 1, 1, 0) = 0; lists(1, 0) = 0
            """);
        RUNS.of("28: (as they were): of a SHEET to itself, up and down", """
            sight(0, 0, 0) = 0; sight(0, 0, 0) = 1; sight(0, 0, 0) = 2
            row 0 0 = 4 9 14 0 0
            row 1 0 = 0 0 0
            copy(0, 0, 0, 1, 3) = 3; copy(0, 1, 1, 0, 3) = 3; lists(1, 0) = 0
            copy(0, 1, 0, 0, 4) = 4; copy(0, 0, 1, 0, 3) = 3; lists(1, 0) = 0; copy(1, 0, 1, 0, 3) = 3; lists(1, 0) = 0
            """);
        RUNS.of("28: of each sort, and all 40", """
            row 0 0 = 4 5
            row 1 0 = 0 0
            copy(0, 0, 1, 0, 2) = 2
            row 0 1 = 4 5
            row 1 1 = 0 0
            copy(0, 0, 1, 0, 2) = 2
            row 0 2 = 4 5
            row 1 2 = 0 0
            copy(0, 0, 1, 0, 2) = 2
            sheet(2, 1, 40) = 1; sheet(3, 1, 40) = 1; copy(2, 0, 3, 0, 40) = 40; copy(2, 0, 3, 0, 41) = -12
            """);
    }

    private static void copiesRefused() {
        RUNS.of("28: -12 (also with n below 0): places outside, on both sides", """
            row 0 0 = 1 2 3
            row 1 0 = 4 5
            copy(0, -1, 1, 0, 1) = -12; copy(0, 0, 1, -1, 1) = -12; copy(0, 0, 1, 0, -1) = -12
            copy(0, 2, 1, 0, 1) = 1; copy(0, 3, 1, 0, 1) = -12; copy(0, 2, 1, 0, 2) = -12; copy(0, 1, 1, 0, 2) = 2
            copy(0, 0, 1, 1, 1) = 1; copy(0, 0, 1, 2, 1) = -12; copy(0, 0, 1, 1, 2) = -12; copy(0, 0, 1, 0, 2) = 2
            copy(0, 0, 1, 0, 3) = -12; copy(1, 0, 0, 1, 2) = 2; copy(1, 0, 0, 2, 2) = -12
            copy(0, 0, 1, 0, -2147483648) = -12; copy(0, 0, 1, 0, 2147483647) = -12
            copy(0, 2147483647, 1, 0, 2147483647) = -12; copy(0, 0, 1, 2147483647, 2147483647) = -12
            copy(0, -2147483648, 1, 0, 1) = -12; copy(0, 0, 1, -2147483648, 1) = -12
            copy(0, 1, 1, 1, 2147483647) = -12; copy(0, 2147483647, 1, 2147483647, -2147483648) = -12
            """);
        RUNS.of("28: n 0: a place outside is one all the same", """
            row 0 0 = 1 2 3
            row 1 0 =
            copy(0, 0, 1, 0, 0) = 0; copy(0, 3, 1, 0, 0) = 0; copy(0, 4, 1, 0, 0) = -12; copy(0, -1, 1, 0, 0) = -12
            copy(0, 0, 1, 1, 0) = -12; copy(0, 0, 1, -1, 0) = -12; copy(0, 0, 1, 0, 1) = -12; copy(1, 0, 0, 0, 1) = -12
            """);
        RUNS.of("28: -13: they are of unlike sorts", """
            row 0 0 = 1
            row 1 1 = 1
            row 2 2 = 1
            copy(0, 0, 1, 0, 1) = -13; copy(1, 0, 0, 0, 1) = -13; copy(0, 0, 2, 0, 1) = -13; copy(2, 0, 0, 0, 1) = -13
            copy(1, 0, 2, 0, 1) = -13; copy(2, 0, 1, 0, 1) = -13; copy(0, 0, 1, 0, 0) = -13
            copy(0, 0, 0, 0, 1) = 1; copy(1, 0, 1, 0, 1) = 1; copy(2, 0, 2, 0, 1) = 1
            """);
    }

    private static void copiesRefusedInWhichOrder() {
        RUNS.of("28: BAD: no such SHEET; -11; -13; -12: in this order", """
            row 0 0 = 1
            row 1 1 = 1
            copy(-1, 0, 0, 0, 1) = BAD; copy(4, 0, 0, 0, 1) = BAD; copy(0, 0, -1, 0, 1) = BAD; copy(0, 0, 4, 0, 1) = BAD
            copy(2147483647, 0, 0, 0, 1) = BAD; copy(0, 0, -2147483648, 0, 1) = BAD
            copy(4, 0, 2, 0, 1) = BAD; copy(2, 0, 4, 0, 1) = BAD; copy(4, 9, 1, 0, -1) = BAD
            copy(2, 0, 0, 0, 1) = -11; copy(0, 0, 2, 0, 1) = -11; copy(2, 0, 3, 0, 1) = -11; copy(2, 0, 2, 0, 0) = -11
            copy(2, 9, 0, 0, 1) = -11; copy(0, 0, 2, 0, -1) = -11
            copy(0, 9, 1, 0, 1) = -13; copy(0, 0, 1, 9, 1) = -13; copy(0, 0, 1, 0, -1) = -13
            copy(0, 9, 0, 0, 1) = -12
            """);
    }

    private static void sights() {
        RUNS.of("29: from one on, three by three (as of sight()), n of them (0 .. 7): how many came", """
            row 0 0 = 5 9 99 4 8 88 3 7 77
            sights(0, 0, 0, -1) = BAD; sights(0, 0, 0, 8) = BAD; sights(0, 0, 0, 2147483647) = BAD
            sights(0, 0, 0, -2147483648) = BAD; count(0) = 0; sights(0, 0, 0, 0) = 0; count(0) = 0
            sights(0, 0, 0, 1) = 1; told(0, 13) = 5; told(0, 8) = 9; told(0, 9) = 99
            told(0, 10) = 0; told(0, 11) = 199; told(0, 12) = 10
            sights(0, 0, 3, 2) = 2; told(1, 9) = 88; told(2, 9) = 77; told(2, 13) = 3
            """);
        RUNS.of("29: n of them (0 .. 7): seven", """
            sheet(0, 2, 21) = 1; sights(0, 2, 0, 7) = 7; count(0) = 7
            new
            sheet(0, 2, 20) = 1; sights(0, 2, 0, 7) = -12; count(0) = 6
            new
            sheet(0, 2, 40) = 1; sights(0, 2, 19, 7) = 7
            new
            sheet(0, 2, 40) = 1; sights(0, 2, 20, 7) = -12; count(0) = 6
            """);
        RUNS.of("29: of each sort", """
            row 0 0 = 0 0 127
            row 1 1 = 0 0 99
            row 2 2 = 0 0 98
            sights(0, 0, 0, 1) = 0; sights(1, 1, 0, 1) = 1; sights(2, 2, 0, 1) = 1; told(0, 9) = 99; told(1, 9) = 98
            """);
    }

    private static void sightsRefused() {
        RUNS.of("29: BAD: no such SHEET, sort, n; -13; -11; -12: in this order", """
            row 0 0 = 0 0 0
            sights(-1, 0, 0, 1) = BAD; sights(4, 0, 0, 1) = BAD; sights(2147483647, 0, 0, 1) = BAD
            sights(-2147483648, 0, 0, 1) = BAD; sights(0, -1, 0, 1) = BAD; sights(0, 3, 0, 1) = BAD
            sights(0, 2147483647, 0, 1) = BAD; sights(0, -2147483648, 0, 1) = BAD
            sights(1, -1, 0, 1) = BAD; sights(1, 3, 0, 1) = BAD; sights(1, 0, 0, 8) = BAD; sights(1, 0, 0, -1) = BAD
            sights(0, 1, 0, 8) = BAD; sights(0, 0, 9, 8) = BAD; sights(0, 0, 9, -1) = BAD
            sights(0, 1, 0, 1) = -13; sights(0, 2, 0, 1) = -13; sights(0, 1, 9, 1) = -13; sights(0, 1, -1, 0) = -13
            sights(1, 0, 0, 1) = -11; sights(1, 1, 0, 1) = -11; sights(1, 2, 0, 1) = -11; sights(1, 0, 9, 1) = -11
            sights(1, 0, 0, 0) = -11; sights(1, 0, -1, 7) = -11
            sights(0, 0, 9, 1) = -12; sights(0, 0, 1, 1) = -12; sights(0, 0, -1, 1) = -12; count(0) = 0
            sights(0, 0, 2147483647, 1) = -12; sights(0, 0, -2147483648, 1) = -12; sights(0, 0, 2147483646, 7) = -12
            count(0) = 0; sights(0, 0, 0, 1) = 1; count(0) = 1
            """);
        RUNS.of("29: -12: one item of three outside, two of three", """
            row 0 0 = 0 0 0 0 0
            sights(0, 0, 2, 1) = 1; sights(0, 0, 3, 1) = -12; sights(0, 0, 4, 1) = -12; sights(0, 0, 5, 1) = -12; count(0) = 1
            row 0 0 =
            sights(0, 0, 0, 1) = -12; sights(0, 0, 0, 0) = 0
            """);
    }

    private static void sightsOfWhichSomeCome() {
        RUNS.of("29: -12: what stood ahead came", """
            row 0 0 = 1 2 3 4 5 6 0 55
            sights(0, 0, 0, 3) = -12; count(0) = 2; told(0, 9) = 3; told(1, 9) = 6
            sights(0, 0, 2, 7) = -12; count(0) = 3; told(2, 13) = 3; told(2, 8) = 4; told(2, 9) = 5
            """);
        RUNS.of("29: how many came (others are left out): those that are BAD", """
            row 0 2 = 6 0 0 0 10 0 0 0 100 -1 0 0 0 -1 0 0 0 -1 5 9 99
            sights(0, 2, 0, 7) = 1; count(0) = 1; told(0, 9) = 99; sights(0, 2, 0, 6) = 0; count(0) = 1
            """);
        RUNS.of("29: how many came (others are left out): those for whom there is no room", """
            sheet(0, 2, 40) = 1; sights(0, 2, 0, 6) = 6; sights(0, 2, 0, 2) = 1; count(0) = 7; sights(0, 2, 0, 7) = 0
            count(0) = 7; sights(0, 2, 38, 1) = -12; sights(0, 2, 37, 1) = 0; sights(0, 2, 37, 2) = -12
            """);
    }

    private static void taken() {
        RUNS.of("30: for one of KIND k (0 .. 5), or one under that one (also by others between): its NUMBER; -13", """
            sight(0, 9, 0) = 0; sight(1, 8, 0) = 1; sight(2, 7, 0) = 2; sight(3, 6, 0) = 3; sight(4, 5, 0) = 4; sight(5, 0, 0) = 5
            taken(0, 0) = 9; taken(0, 1) = -13; taken(0, 2) = -13; taken(0, 3) = -13; taken(0, 4) = -13; taken(0, 5) = -13
            taken(1, 0) = 8; taken(1, 1) = 8; taken(1, 2) = -13; taken(1, 3) = -13; taken(1, 4) = -13; taken(1, 5) = -13
            taken(2, 0) = 7; taken(2, 1) = -13; taken(2, 2) = 7; taken(2, 3) = -13; taken(2, 4) = -13; taken(2, 5) = -13
            taken(3, 0) = 6; taken(3, 1) = 6; taken(3, 2) = -13; taken(3, 3) = 6; taken(3, 4) = -13; taken(3, 5) = -13
            taken(4, 0) = 5; taken(4, 1) = -13; taken(4, 2) = 5; taken(4, 3) = -13; taken(4, 4) = 5; taken(4, 5) = -13
            taken(5, 0) = 0; taken(5, 1) = -13; taken(5, 2) = -13; taken(5, 3) = -13; taken(5, 4) = -13; taken(5, 5) = 0
            """);
        RUNS.of("30: BAD: k; -11: no such SIGHT; -13: in this order", """
            taken(0, 0) = -11; sight(0, 3, 0) = 0
            taken(0, -1) = BAD; taken(0, 6) = BAD; taken(0, 2147483647) = BAD; taken(0, -2147483648) = BAD
            taken(-1, -1) = BAD; taken(1, 6) = BAD
            taken(-1, 0) = -11; taken(1, 0) = -11; taken(1, 5) = -11; taken(7, 5) = -11
            taken(2147483647, 0) = -11; taken(-2147483648, 5) = -11
            taken(0, 5) = -13; set(8, 0, 9) = 3; taken(0, 0) = 9
            """);
    }

    /** The dearest calls, too, answer up to the last as they do at first. */
    private static void theLastCall() {
        for (String name : new String[] {"best", "two", "leave", "setting", "moon"}) {
            RUNS.of("An object is used for at most 512 calls after it has been made: " + name);
            Counted object = new Counted();
            for (int i = 0; i < 7; i++) {
                object.call("sight", i % 6, i, 11 * i);
            }
            long first = object.call(name, 1);
            for (int i = 8; i < Counted.MOST_CALLS; i++) {
                RUNS.same("call " + (i + 1), object.call(name, 1), first);
            }
        }
    }

    private static AHundredSights used(int way) {
        AHundredSights x = new AHundredSights();
        for (int i = 0; i < way * 7 / 2; i++) {
            x.sight(i % 6, i, 99 - i);
        }
        for (int sheet = 0; sheet < way; sheet++) {
            x.sheet(sheet, sheet, 7 - 3 * sheet);
        }
        if (way == 2) {
            x.image();
            x.film(3);
        }
        return x;
    }

    /** No call may throw, for any arguments in any state (LANGUAGE.md, rule 7). */
    private static void anyArguments() {
        RUNS.of("No call may ever throw or fail to end, for any arguments in any state");
        int[] odd = {LEAST, -1, 0, 1, 3, 7, 20, 199, 256, MOST};
        AHundredSights[] ways = {used(0), used(1), used(2)};
        int calls = 0;
        for (int a : odd) {
            for (int b : odd) {
                for (int c : odd) {
                    // After ten rounds of 31 calls each is made anew, so that none is used for more than 512.
                    for (int way = 0; way < ways.length; way++, calls++) {
                        ways[way] = calls % 30 < 3 ? used(way) : ways[way];
                        callAll(ways[way], a, b, c);
                    }
                }
            }
        }
    }

    private static void callAll(AHundredSights x, int a, int b, int c) {
        x.set(a, b, c);
        x.sight(a, b, c);
        x.told(a, b);
        x.shines(a, b, c);
        x.feed(a);
        x.text();
        x.force(a);
        x.night(a);
        x.order(a, b);
        x.best(a);
        x.setting(a);
        x.late();
        x.sleep(a, b);
        x.moon(a);
        x.leave(a);
        x.two(a);
        x.cloud();
        x.lists(a, b);
        x.film(a);
        x.drawn(a);
        x.chance(a, b, c);
        x.image();
        x.back();
        x.count(a);
        x.sheet(a, b, c);
        x.cell(a, b, c);
        x.copy(a, b, c, a, b);
        x.copy(a, b, a, c, c);
        x.sights(a, b, c, a);
        x.sights(a, 0, b, c);
        x.taken(a, b);
    }
}
