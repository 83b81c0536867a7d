// Each sentence of the document that names a boundary of lists, clouds that are drawn and images: Terms,
// block 2, from LISTS on; promises 19 to 25. By TEXT 0 one is FOUND in 5 TICKS, having turned by FAR.
public final class ListBoundaryTest {
    private static final Runs RUNS = new Runs();
    private static final String SEVEN = """
        sight(0, 0, 0) = 0; sight(0, 0, 0) = 1; sight(0, 0, 0) = 2; sight(0, 0, 0) = 3
        sight(0, 0, 0) = 4; sight(0, 0, 0) = 5; sight(0, 0, 0) = 6
        """;

    public static void main(String[] args) {
        whatIsAskedOfLists();
        listsThatAreNone();
        whoIsNotSo();
        spots();
        moons();
        texts();
        kinds();
        numbers();
        film();
        drawn();
        chanceOf();
        chanceByHand();
        image();
        back();
        whatAnImageKeeps();
        count();
        RUNS.end();
    }

    private static void whatIsAskedOfLists() {
        RUNS.of("19: BAD: SHEET, what, no such SIGHT (of two)", """
            sight(0, 0, 0) = 0; sight(0, 0, 9) = 1
            row 0 1 = 4 18
            row 3 1 = 4 18
            lists(-1, 0) = BAD; lists(0, 0) = 0; lists(3, 0) = 0; lists(4, 0) = BAD
            lists(2147483647, 0) = BAD; lists(-2147483648, 0) = BAD
            lists(0, -1) = BAD; lists(0, 4) = 1; lists(0, 5) = BAD; lists(0, 9) = BAD
            lists(0, 10) = 3; lists(0, 11) = 3; lists(0, 12) = BAD; lists(0, 19) = BAD
            lists(0, 20) = 1023; lists(0, 21) = 1023; lists(0, 22) = BAD; lists(0, 29) = BAD
            lists(0, 30) = BAD; lists(0, 31) = BAD; lists(0, 110) = BAD; lists(0, -10) = BAD
            lists(0, 2147483647) = BAD; lists(0, -2147483648) = BAD
            """);
        RUNS.of("19: BAD: no such SIGHT (of seven)", SEVEN, """
            film(0) = 7; lists(0, 16) = 3; lists(0, 17) = BAD; lists(0, 26) = 1023; lists(0, 27) = BAD; lists(0, 9) = BAD
            """);
    }

    private static void listsThatAreNone() {
        RUNS.of("19: -11, behind BAD: SHEET, what, no such SIGHT", """
            sight(0, 0, 0) = 0
            lists(0, 0) = -11; lists(0, 4) = -11; lists(0, 10) = -11; lists(0, 20) = -11; lists(3, 0) = -11
            lists(0, 5) = BAD; lists(0, 11) = BAD; lists(0, 21) = BAD; lists(0, -1) = BAD; lists(4, 0) = BAD; lists(-1, 0) = BAD
            """);
        RUNS.of("19: BAD: its size isn't how many SIGHTS there are", """
            sight(0, 0, 0) = 0; sight(0, 0, 0) = 1
            row 0 1 = 4
            lists(0, 0) = BAD; lists(0, 1) = BAD; lists(0, 2) = BAD; lists(0, 3) = BAD; lists(0, 4) = BAD
            lists(0, 10) = BAD; lists(0, 20) = BAD
            row 0 1 = 4 9 14
            lists(0, 0) = BAD; lists(0, 10) = BAD
            row 0 1 =
            lists(0, 0) = BAD
            row 0 1 = 4 9
            lists(0, 0) = 0; sight(0, 0, 0) = 2; lists(0, 0) = BAD
            """);
        RUNS.of("19: an empty sky: a list of none is so, whatever is asked", """
            lists(0, 0) = -11
            row 0 0 =
            lists(0, 0) = 0; lists(0, 1) = 100; lists(0, 2) = 0; lists(0, 3) = 1023; lists(0, 4) = 1
            text "turns 1 ; finds 1 ; waits 0 ;" = 1
            lists(0, 4) = 3; lists(0, 10) = BAD; lists(0, 20) = BAD
            row 0 0 = 0
            lists(0, 0) = BAD
            """);
    }

    private static void whoIsNotSo() {
        RUNS.of("LISTS: the TICK in which it was FOUND (NONE: MISSED), PLAIN: who isn't so (bits)", """
            sight(0, 0, 0) = 0; sight(0, 0, 0) = 1; set(11, 1, 8) = 199
            row 0 2 = 4 -1
            lists(0, 0) = 0
            row 0 2 = 5 -1
            lists(0, 0) = 1
            row 0 2 = 3 -1
            lists(0, 0) = 1
            row 0 2 = 4 9
            lists(0, 0) = 2
            row 0 2 = 4 0
            lists(0, 0) = 2
            row 0 2 = 4 -2
            lists(0, 0) = 2
            row 0 2 = -1 4
            lists(0, 0) = 3
            row 0 2 = 2147483647 -2147483648
            lists(0, 0) = 3
            """);
        RUNS.of("who isn't so (bits): none, all of seven, the last TICK", SEVEN, """
            set(6, 0, 165) = 0
            row 0 2 = 169 174 179 184 189 194 199
            lists(0, 0) = 0
            row 0 2 = 170 175 180 185 190 195 200
            lists(0, 0) = 127
            row 0 2 = 169 174 179 184 189 194 200
            lists(0, 0) = 64
            """);
    }

    private static void spots() {
        RUNS.of("SPOTS where he could BEGIN so that all would be: how many, the least", """
            sight(0, 0, 99) = 0
            row 0 0 = 4
            lists(0, 1) = 1; lists(0, 2) = 99
            row 0 0 = 5
            lists(0, 1) = 3; lists(0, 2) = 88
            row 0 0 = 13
            lists(0, 1) = 19; lists(0, 2) = 0
            row 0 0 = 14
            lists(0, 1) = 0; lists(0, 2) = NONE
            row 0 0 = 3
            lists(0, 1) = 0; lists(0, 2) = NONE
            set(10, 0, 9) = 0
            row 0 0 = 13
            lists(0, 1) = 100; lists(0, 2) = 0; told(0, 5) = 0
            """);
        RUNS.of("SPOTS so that all would be, not one of them", """
            sight(0, 0, 0) = 0; sight(0, 0, 0) = 1
            row 0 0 = 4 9
            lists(0, 1) = 1; lists(0, 2) = 0
            row 0 0 = 4 10
            lists(0, 1) = 0; lists(0, 2) = NONE
            """);
    }

    private static void moons() {
        RUNS.of("MOONS (bits 0 .. 9)", """
            sight(1, 0, 0) = 0
            row 0 0 = 4
            lists(0, 3) = 1
            row 0 0 = 13
            lists(0, 3) = 512
            row 0 0 = 14
            lists(0, 3) = 0
            row 0 0 = 3
            lists(0, 3) = 0
            set(11, 0, 8) = 199
            row 0 0 = -1
            lists(0, 3) = 992; told(0, 0) = 0
            new
            sight(0, 0, 0) = 0; set(0, 0, 5) = 0
            row 0 0 = 4
            lists(0, 3) = 1023; told(0, 0) = 5
            """);
    }

    private static void texts() {
        RUNS.of("TEXTS (bits), were they THE RULE", """
            sight(0, 0, 0) = 0
            row 0 0 = 4
            lists(0, 4) = 1
            text "turns 1 ; finds 5 ; waits 9 ;" = 1
            text "turns 2 ; finds 5 ; waits 9 ;" = 2
            text "turns 1 ; finds 5 ; waits 0 ;" = 3
            text "turns 4 ; finds 5 ; waits 0 ;" = 4
            text "turns 5 ; finds 5 ; waits 0 ;" = 5
            lists(0, 4) = 1; force(5) = 0; lists(0, 4) = 1; lists(0, 0) = 1; count(3) = 5
            row 0 0 = 9
            lists(0, 4) = 32
            row 0 0 = 5
            lists(0, 4) = 10
            row 0 0 = 10
            lists(0, 4) = 0
            set(10, 0, 5) = 0
            row 0 0 = 9
            lists(0, 4) = 63
            """);
    }

    private static void kinds() {
        RUNS.of("KINDS (bits 0 .. 5) of one", """
            sight(0, 6, 0) = 0; set(6, 0, 9) = 0; set(0, 0, 3) = 0
            row 0 0 = 13
            lists(0, 10) = 33
            row 0 0 = 16
            lists(0, 10) = 18
            row 0 0 = 10
            lists(0, 10) = 4
            row 0 0 = 24
            lists(0, 10) = 8
            row 0 0 = 11
            lists(0, 10) = 0; told(0, 13) = 0
            set(11, 0, 2) = 199
            row 0 0 = -1
            lists(0, 10) = 63; told(0, 13) = 0
            """);
        RUNS.of("KINDS of SIGHT what modulo 10 (10 ..)", """
            sight(0, 6, 0) = 0; sight(0, 6, 0) = 1; set(6, 0, 9) = 0
            row 0 0 = 13 15
            lists(0, 10) = 0; lists(0, 11) = 4; told(1, 13) = 0; lists(0, 0) = 2
            """);
    }

    private static void numbers() {
        RUNS.of("NUMBERS (bits 0 .. 9) of one", """
            sight(4, 3, 0) = 0; set(6, 0, 9) = 0
            row 0 0 = 10
            lists(0, 20) = 1
            row 0 0 = 19
            lists(0, 20) = 512
            row 0 0 = 20
            lists(0, 20) = 0
            row 0 0 = 9
            lists(0, 20) = 0; told(0, 8) = 3
            new
            sight(0, 3, 0) = 0
            row 0 0 = 4
            lists(0, 20) = 1023; told(0, 8) = 3
            """);
        RUNS.of("NUMBERS of SIGHT what modulo 10 (20 ..)", """
            sight(0, 6, 0) = 0; sight(1, 6, 0) = 1; set(10, 1, 20) = 0
            row 0 0 = 4 29
            lists(0, 20) = 0; lists(0, 21) = 32; told(1, 8) = 6
            """);
    }

    private static void film() {
        RUNS.of("20: BAD: no such SHEET", """
            sight(0, 0, 0) = 0; film(-1) = BAD; film(4) = BAD; film(2147483647) = BAD; film(-2147483648) = BAD
            film(0) = 1; film(3) = 1; lists(0, 0) = 0; lists(3, 0) = 0; lists(1, 0) = -11
            """);
        RUNS.of("20: A SHEET truly becomes the TICKS (PLAIN; shorts): how many", """
            sight(0, 0, 0) = 0; sight(0, 0, 0) = 1; set(11, 1, 3) = 199; sight(0, 0, 0) = 2; set(10, 2, 195) = 0
            row 0 2 = 1 2 3 4 5
            row 1 1 = 4 -1 199
            film(0) = 3; lists(0, 0) = 0; sights(0, 1, 0, 0) = 0; sights(0, 2, 0, 0) = -13; sights(0, 0, 0, 0) = -13
            cell(0, 3, 0) = -12; copy(0, 0, 1, 0, 3) = 3; lists(1, 0) = 0
            set(10, 2, 196) = 195; lists(0, 0) = 4; film(0) = 3; lists(0, 0) = 0; lists(1, 0) = 4
            """);
        RUNS.of("20: of an empty sky: the SHEET is there, and empty", """
            cell(2, 0, 0) = -11; film(2) = 0; cell(2, 0, 0) = -12; sights(2, 1, 0, 0) = 0
            row 2 0 = 1 2
            film(2) = 0; cell(2, 0, 0) = -12
            """);
        RUNS.of("20: of seven", SEVEN, "film(0) = 7; lists(0, 0) = 0; cell(0, 6, 34) = 1; lists(0, 0) = 0; cell(0, 7, 0) = -12");
    }

    // What the document's z makes of these SEEDS, by long numbers: 231195: x 0 .. 9, TICKS 0 .. 196; -1593: x 5, TICKS
    // 2 .. 197; 80: x 1 .. 7, TICK 136; 0: FIRST 187 above LAST 94; 8: LEFT 3 above RIGHT 2; 2147483647: x 4 .. 8,
    // TICKS 93 .. 182; -2147483648: LEFT 8 above RIGHT 5.
    private static void drawn() {
        RUNS.of("DRAWN: LEFT, RIGHT (z >>> 9) % 10, FIRST, LAST (z >>> 9) % 200: over all x", """
            sight(0, 0, 0) = 0; sight(0, 0, 9) = 1
            drawn(231195) = 0
            rule "turns 0 ; finds 3 ; waits 0 ;"
            drawn(231195) = 10
            rule "turns 0 ; finds 1 ; waits 0 ;"
            drawn(231195) = 20; told(0, 1) = 9; told(0, 2) = 0; told(0, 3) = 199; told(0, 4) = 0
            """);
        RUNS.of("DRAWN: over one x", """
            sight(0, 0, 4) = 0; sight(0, 0, 15) = 1; sight(0, 0, 96) = 2; drawn(-1593) = 20
            set(12, 0, 1) = 10; set(12, 1, 2) = 10; set(12, 2, 4) = 10; drawn(-1593) = 5
            rule "turns 0 ; finds 1 ; waits 0 ;"
            set(10, 1, 2) = 0; drawn(-1593) = 7; set(11, 1, 197) = 199; drawn(-1593) = 5
            set(10, 1, 0) = 2; set(11, 1, 2) = 197; drawn(-1593) = 7; set(6, 0, 1) = 0; drawn(-1593) = 5
            """);
        RUNS.of("DRAWN: in one TICK", """
            sight(0, 0, 1) = 0; set(5, 0, 1) = 0; set(7, 0, 0) = 199
            set(6, 0, 136) = 0; drawn(80) = 0; set(6, 0, 131) = 136; drawn(80) = 10
            set(6, 0, 132) = 131; drawn(80) = 0; set(6, 0, 137) = 132; drawn(80) = 10; set(6, 0, 136) = 137
            set(9, 0, 7) = 1; set(5, 0, 7) = 1; drawn(80) = 0; set(9, 0, 8) = 7; set(5, 0, 8) = 7; drawn(80) = 10
            set(9, 0, 0) = 8; set(5, 0, 0) = 8; drawn(80) = 10
            """);
        RUNS.of("DRAWN: where the one is above the other, nowhere, never", """
            sight(0, 0, 3) = 0; set(6, 0, 145) = 0; set(7, 0, 0) = 199; drawn(8) = 10; drawn(0) = 10
            """);
        RUNS.of("DRAWN by a SEED (an int): the greatest, the least", """
            sight(0, 0, 5) = 0; set(5, 0, 5) = 0; set(6, 0, 100) = 0; set(7, 0, 0) = 199
            drawn(2147483647) = 0; drawn(-2147483648) = 10; set(9, 0, 3) = 5; drawn(2147483647) = 10
            set(9, 0, 8) = 3; set(5, 0, 8) = 5; set(6, 0, 182) = 100; drawn(2147483647) = 0
            set(6, 0, 183) = 182; drawn(2147483647) = 10
            """);
        RUNS.of("DRAWN: the CLOUD that there is doesn't count", """
            sight(0, 0, 0) = 0; set(1, 0, 0) = 9; set(2, 0, 9) = 0; set(3, 0, 0) = 199; set(4, 0, 199) = 0
            night(0) = 0; drawn(8) = 10; drawn(0) = 10; night(0) = 0; told(0, 4) = 199
            """);
    }

    private static void chanceOf() {
        RUNS.of("22: NO: n (1 .. 20), part", """
            sight(0, 0, 0) = 0
            chance(8, 0, 0) = NO; chance(8, 1, 0) = 1; chance(8, 1, 1) = 1; chance(8, 21, 0) = NO; chance(8, 0, 1) = NO
            chance(8, 21, 1) = NO; chance(8, -1, 0) = NO; chance(8, 2147483647, 0) = NO; chance(8, -2147483648, 1) = NO
            chance(8, 1, -1) = NO; chance(8, 1, 2) = NO; chance(8, 1, 2147483647) = NO; chance(8, 1, -2147483648) = NO
            chance(8, 20, -1) = NO; chance(8, 20, 2) = NO; chance(8, 0, 2) = NO
            """);
        RUNS.of("IN n seeds: SEED and each 1 more (an int): behind the greatest comes the least", """
            sight(0, 0, 5) = 0; set(5, 0, 5) = 0; set(6, 0, 100) = 0; set(7, 0, 0) = 199
            chance(2147483647, 1, 0) = 0; chance(2147483647, 1, 1) = 1
            chance(-2147483648, 1, 0) = 1; chance(-2147483648, 1, 1) = 1
            chance(2147483647, 2, 0) = 1; chance(2147483647, 2, 1) = 2
            """);
        RUNS.of("those by which it is no less than without CLOUD: as much is enough, more is, too", """
            sight(0, 0, 5) = 0; set(5, 0, 5) = 0; set(10, 0, 31) = 0; set(11, 0, 36) = 199
            rule "turns 0 ; finds 5 ; waits 1 ;"
            night(0) = -21; drawn(-1593) = 0; chance(-1593, 1, 0) = 1; drawn(8) = -21; chance(8, 1, 0) = 1
            set(10, 0, 1) = 31; drawn(-1593) = 0; chance(-1593, 1, 0) = 0; chance(-1593, 1, 1) = 1
            """);
        RUNS.of("than without CLOUD: the CLOUD that there is doesn't count", """
            sight(0, 0, 5) = 0; set(5, 0, 5) = 0; set(6, 0, 100) = 0; set(7, 0, 0) = 199
            set(1, 0, 0) = 9; set(2, 0, 9) = 0; set(3, 0, 0) = 199; set(4, 0, 199) = 0
            night(0) = 0; chance(2147483647, 1, 0) = 0; chance(-2147483648, 1, 0) = 1
            """);
    }

    /** Whether a SEED's cloud is over x 5 in one of the TICKS 100 .. 104; by long numbers, as z is an int. */
    private static boolean hides(int seed) {
        long z = seed & 0xffffffffL;
        long[] dials = new long[4];
        for (int i = 0; i < 4; i++) {
            z = z * 1103515245L + 12345L & 0xffffffffL;
            dials[i] = z / 512 % (i < 2 ? 10 : 200);
        }
        return dials[0] <= 5 && 5 <= dials[1] && dials[2] <= dials[3] && dials[2] <= 104 && dials[3] >= 100;
    }

    private static void chanceByHand() {
        int lowered = 0;
        for (int seed : new int[] {0, 1113, -194, 2847, 2147483640, -2147483648}) {
            for (int n = 1; n <= 20; n++) {
                int good = 0;
                for (int i = 0; i < n; i++) {
                    good += hides(seed + i) ? 0 : 1;
                }
                int common = java.math.BigInteger.valueOf(good).gcd(java.math.BigInteger.valueOf(n)).intValue();
                lowered += common > 1 && common < n ? 1 : 0;
                RUNS.of("22: part 0 above, 1 below the line, in lowest terms: " + good + " of " + n,
                    "sight(0, 0, 5) = 0; set(5, 0, 5) = 0; set(6, 0, 100) = 0; set(7, 0, 0) = 199");
                RUNS.due(good / common, "chance", seed, n, 0);
                RUNS.due(n / common, "chance", seed, n, 1);
            }
        }
        RUNS.same("enough of these aren't in lowest terms as they come", lowered > 20 ? 1 : 0, 1);
    }

    private static void image() {
        RUNS.of("23: AN IMAGE is kept: how many SIGHTS: none, one, seven", """
            image() = 0; sight(0, 0, 0) = 0; image() = 1
            sight(0, 0, 0) = 1; sight(0, 0, 0) = 2; sight(0, 0, 0) = 3; sight(0, 0, 0) = 4; sight(0, 0, 0) = 5; sight(0, 0, 0) = 6
            image() = 7; back() = 7; count(0) = 7
            """);
        RUNS.of("23: a later one is kept instead", """
            set(0, 0, 1) = 0; image() = 0; set(0, 0, 2) = 1; image() = 0; set(0, 0, 3) = 2
            back() = 0; told(0, 0) = 2; set(0, 0, 4) = 2; back() = 0; told(0, 0) = 2
            """);
    }

    private static void back() {
        RUNS.of("24: STATE: there is none", "back() = STATE; sight(0, 0, 0) = 0; back() = STATE; count(0) = 1; image() = 1; back() = 1");
        RUNS.of("(SIGHTS that came since go)", SEVEN.replace("sight(0, 0, 0) = 0;", "image() = 0; sight(0, 0, 0) = 0;"), """
            back() = 0; count(0) = 0; told(0, 8) = BAD; night(10) = -100000; night(0) = 0
            sight(4, 7, 77) = 0; told(0, 8) = 7; told(0, 9) = 77; told(0, 10) = 0; told(0, 11) = 199; told(0, 12) = 10
            told(0, 13) = 4; back() = 0; count(0) = 0
            """);
        RUNS.of("(SIGHTS that came since go): one that comes then is as new", """
            sight(0, 0, 0) = 0; image() = 1; sight(1, 2, 3) = 1; set(11, 1, 5) = 199; set(10, 1, 5) = 0; set(12, 1, 99) = 10
            back() = 1; sight(2, 0, 0) = 1; told(1, 10) = 0; told(1, 11) = 199; told(1, 12) = 10; night(11) = 6
            """);
        RUNS.of("(SIGHTS that came since go): there is room for seven again", SEVEN.replace("; sight(0, 0, 0) = 6", ""), """
            image() = 6; sight(0, 0, 0) = 6; sight(0, 0, 0) = FULL; back() = 6; sight(0, 0, 0) = 6; sight(0, 0, 0) = FULL
            """);
    }

    private static void whatAnImageKeeps() {
        RUNS.of("AN IMAGE keeps MOON, CLOUD, where, when he BEGINS, PATIENCE, NUMBERS, SPOTS, RISE, SET, WORTH of all, THE RULE", """
            sight(3, 1, 2) = 0; set(11, 0, 150) = 199; set(10, 0, 50) = 0; set(12, 0, 8) = 10; sight(4, 5, 6) = 1
            set(0, 0, 4) = 0; set(1, 0, 3) = 9; set(2, 0, 7) = 0; set(3, 0, 20) = 199; set(4, 0, 30) = 0
            set(5, 0, 55) = 0; set(6, 0, 66) = 0; set(7, 0, 77) = 199
            text "turns 1 ; finds 1 ; waits 0 ;" = 1
            force(1) = 0; image() = 2; force(0) = 1
            set(0, 0, 9) = 4; set(1, 0, 9) = 3; set(2, 0, 9) = 7; set(3, 0, 9) = 20; set(4, 0, 9) = 30; set(5, 0, 9) = 55
            set(6, 0, 9) = 66; set(7, 0, 9) = 77; set(8, 0, 9) = 1; set(9, 0, 9) = 2; set(10, 0, 9) = 50; set(11, 0, 9) = 150
            set(12, 0, 9) = 8; set(8, 1, 9) = 5; set(12, 1, 9) = 10
            back() = 2
            told(0, 0) = 4; told(0, 1) = 3; told(0, 2) = 7; told(0, 3) = 20; told(0, 4) = 30; told(0, 5) = 55; told(0, 6) = 66
            told(0, 7) = 77; told(0, 8) = 1; told(0, 9) = 2; told(0, 10) = 50; told(0, 11) = 150; told(0, 12) = 8
            told(0, 13) = 3; told(1, 8) = 5; told(1, 12) = 10; told(1, 13) = 4; count(3) = 1; count(0) = 2
            """);
        RUNS.of("AN IMAGE keeps no TEXTS, not THE TAPE, no SHEETS", """
            sight(0, 0, 0) = 0
            row 0 0 = 7
            feed(116) = 1; image() = 1; feed(117) = 2; cell(0, 0, 4) = 1; sheet(1, 1, 2) = 1
            back() = 1; count(2) = 2; lists(0, 0) = 0; cell(1, 1, 0) = 1; cell(1, 2, 0) = -12
            text() = -100; text() = -100
            text "turns 1 ; finds 1 ; waits 0 ;" = 1
            back() = 1; count(1) = 2; force(1) = 0; back() = 1; count(3) = 0
            """);
        RUNS.of("24: a night is as it was, after back()", """
            sight(0, 0, 0) = 0; sight(0, 0, 5) = 1; image() = 2; night(11) = 14
            set(1, 0, 0) = 9; set(2, 0, 9) = 0; set(3, 0, 0) = 199; set(4, 0, 100) = 0; night(10) = 105
            back() = 2; night(10) = 4; night(11) = 14; set(10, 0, 50) = 0; night(10) = 54; back() = 2; night(10) = 4
            """);
    }

    private static void count() {
        RUNS.of("25: How many: 0 SIGHTS, 1 TEXTS, 2 bytes of THE TAPE, 3 THE RULE. BAD", """
            count(-1) = BAD; count(0) = 0; count(1) = 1; count(2) = 0; count(3) = 0; count(4) = BAD
            count(2147483647) = BAD; count(-2147483648) = BAD
            sight(0, 0, 0) = 0; sight(0, 0, 0) = 1; sight(0, 0, 0) = 2
            text "turns 1 ; finds 1 ; waits 0 ;" = 1
            feed(0) = 1; feed(0) = 2; feed(0) = 3; feed(0) = 4; force(1) = 0
            count(0) = 3; count(1) = 2; count(2) = 4; count(3) = 1
            """);
    }
}
