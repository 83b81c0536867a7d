// Each sentence of the document that names a boundary of A NIGHT: Terms, block 2, its first paragraph;
// promises 9 and 10. By TEXT 0 one is FOUND in 5 TICKS, having turned by FAR.
public final class NightBoundaryTest {
    private static final Runs RUNS = new Runs();
    private static final String SEVEN = """
        sight(0, 0, 0) = 0; sight(0, 0, 0) = 1; sight(0, 0, 0) = 2; sight(0, 0, 0) = 3
        sight(0, 0, 0) = 4; sight(0, 0, 0) = 5; sight(0, 0, 0) = 6
        """;

    public static void main(String[] args) {
        begins();
        noLessThanThat();
        patience();
        inEachItShines();
        inNoneItIsInCloud();
        noneAbove199();
        foundInTheLast();
        missed();
        worth();
        whatIsAskedOfANight();
        whatIsToldOfANight();
        anOrder();
        anOrderOfUnlikeOnes();
        ordersThatAreNone();
        ordersOfAnEmptySky();
        RUNS.end();
    }

    private static void begins() {
        RUNS.of("he is at the SPOT, in the TICK where he BEGINS", """
            sight(0, 0, 44) = 0; night(10) = 8; night(3) = 9
            set(5, 0, 44) = 0; night(10) = 4
            set(6, 0, 100) = 0; night(10) = 104; night(3) = 105
            set(5, 0, 99) = 44; night(10) = 109
            """);
        RUNS.of("in the last TICK in which he can begin and still find it, and in the next", """
            sight(0, 0, 0) = 0
            set(6, 0, 195) = 0; night(10) = 199; night(3) = 200; night(0) = 10
            set(6, 0, 196) = 195; night(10) = NONE; night(3) = 196; night(0) = 0
            set(6, 0, 199) = 196; night(10) = NONE; night(3) = 199
            """);
    }

    private static void noLessThanThat() {
        RUNS.of("it can be FOUND from the first TICK w on, no less than that (in which he would have turned)", """
            sight(0, 0, 3) = 0
            set(10, 0, 2) = 0; night(10) = 7; night(20) = 0
            set(10, 0, 3) = 2; night(10) = 7; night(20) = 0
            set(10, 0, 4) = 3; night(10) = 8; night(20) = 1; night(4) = 1
            """);
        RUNS.of("the first TICK w: of FLARING ones the first that is long enough", """
            sight(5, 3, 0) = 0
            rule "turns 0 ; finds 4 ; waits 0 ;"
            night(10) = 4; night(20) = 1; set(6, 0, 2) = 0; night(10) = 9; night(20) = 4
            rule "turns 0 ; finds 5 ; waits 0 ;"
            night(10) = NONE
            """);
    }

    private static void patience() {
        RUNS.of("no more than PATIENCE later", """
            sight(0, 0, 3) = 0; set(7, 0, 5) = 199
            set(10, 0, 8) = 0; night(10) = 12; night(20) = 5
            set(10, 0, 9) = 8; night(10) = NONE; night(20) = NONE
            set(7, 0, 6) = 5; night(10) = 13; night(20) = 6
            """);
        RUNS.of("PATIENCE 0: at once or not at all", """
            sight(0, 0, 3) = 0; set(7, 0, 0) = 199; night(10) = 7
            set(10, 0, 3) = 0; night(10) = 7; night(20) = 0
            set(10, 0, 4) = 3; night(10) = NONE; night(4) = 0
            """);
        RUNS.of("PATIENCE 199: all the night", """
            sight(0, 0, 0) = 0
            rule "turns 0 ; finds 1 ; waits 0 ;"
            set(10, 0, 199) = 0; night(10) = 199; night(20) = 199; night(4) = 199
            set(7, 0, 198) = 199; night(10) = NONE
            """);
    }

    private static void inEachItShines() {
        RUNS.of("in each of the NEEDS TICKS from w on it SHINES: till SET", """
            sight(0, 0, 3) = 0
            set(11, 0, 7) = 199; night(10) = 7
            set(11, 0, 6) = 7; night(10) = NONE
            set(11, 0, 2) = 6; night(10) = NONE
            """);
        RUNS.of("in each it SHINES: RISE and SET are just far enough apart", """
            sight(0, 0, 0) = 0; set(11, 0, 54) = 199
            set(10, 0, 50) = 0; night(10) = 54
            set(10, 0, 51) = 50; night(10) = NONE
            """);
        RUNS.of("in each it SHINES: a FAINT from RISE and NUMBER on, a BRIGHT till SET and NUMBER", """
            sight(1, 9, 0) = 0; set(11, 0, 63) = 199
            set(10, 0, 50) = 0; night(10) = 63
            set(10, 0, 51) = 50; night(10) = NONE
            new
            sight(2, 9, 0) = 0; set(6, 0, 58) = 0
            set(11, 0, 50) = 199; night(10) = 59
            set(11, 0, 49) = 50; night(10) = NONE
            """);
    }

    private static void inNoneItIsInCloud() {
        String over = "set(1, 0, 3) = 9; set(2, 0, 3) = 0; sight(0, 0, 3) = 0";
        RUNS.of("in each of the NEEDS TICKS from w on it isn't in CLOUD: of one TICK", over, """
            set(3, 0, 2) = 199; set(4, 0, 2) = 0; night(10) = 7
            set(4, 0, 3) = 2; set(3, 0, 3) = 2; night(10) = 8; night(20) = 1
            set(4, 0, 7) = 3; set(3, 0, 7) = 3; night(10) = 12; night(20) = 5
            set(4, 0, 8) = 7; set(3, 0, 8) = 7; night(10) = 7
            """);
        RUNS.of("it isn't in CLOUD: till LAST", over, """
            set(3, 0, 0) = 199; set(4, 0, 194) = 0; night(10) = 199; night(20) = 192
            set(4, 0, 195) = 194; night(10) = NONE
            """);
        RUNS.of("it isn't in CLOUD: by x alone", """
            sight(0, 0, 3) = 0; set(3, 0, 0) = 199; set(4, 0, 199) = 0
            set(1, 0, 4) = 9; set(2, 0, 9) = 0; night(10) = 7
            set(1, 0, 3) = 4; night(10) = NONE
            set(1, 0, 0) = 3; set(2, 0, 2) = 9; night(10) = 7
            set(2, 0, 3) = 2; night(10) = NONE
            set(9, 0, 34) = 3; night(10) = 8
            """);
        RUNS.of("where he is himself may be in CLOUD", """
            sight(0, 0, 1) = 0; set(1, 0, 0) = 9; set(2, 0, 0) = 0; set(3, 0, 0) = 199; set(4, 0, 199) = 0; night(10) = 5
            """);
    }

    private static void noneAbove199() {
        RUNS.of("(none above TICK 199)", """
            sight(0, 0, 0) = 0; set(10, 0, 195) = 0; night(10) = 199; night(3) = 200
            set(10, 0, 196) = 195; night(10) = NONE; night(3) = 0
            """);
        RUNS.of("(none above TICK 199): of a BRIGHT whose SET and NUMBER is above it", """
            sight(4, 9, 0) = 0; set(6, 0, 189) = 0; night(10) = 199
            set(6, 0, 190) = 189; night(10) = NONE
            """);
        RUNS.of("(none above TICK 199): of one who has turned beyond", """
            sight(0, 0, 0) = 0; set(6, 0, 199) = 0
            rule "turns 0 ; finds 1 ; waits 0 ;"
            night(10) = 199; night(3) = 200
            rule "turns 1 ; finds 1 ; waits 0 ;"
            night(10) = NONE; night(3) = 199
            rule "turns 50 ; finds 99 ; waits 9 ;"
            night(10) = NONE; night(0) = 0
            """);
    }

    private static void foundInTheLast() {
        RUNS.of("it is FOUND in the last of these TICKS; then he is at its SPOT, in the TICK behind", """
            sight(0, 0, 9) = 0; sight(0, 0, 8) = 1
            night(10) = 13; night(11) = 19; night(3) = 20
            set(11, 0, 13) = 199; night(10) = 13
            set(11, 0, 12) = 13; night(10) = NONE; night(11) = 12
            """);
        RUNS.of("NEEDS 1: it is FOUND in w itself", """
            sight(0, 0, 0) = 0; sight(0, 0, 0) = 1
            rule "turns 0 ; finds 1 ; waits 0 ;"
            night(10) = 0; night(11) = 1; night(3) = 2
            """);
    }

    private static void missed() {
        RUNS.of("If there is none it is MISSED, and he stays as he is", """
            sight(0, 0, 99) = 0; sight(0, 0, 1) = 1; set(11, 0, 0) = 199
            night(10) = NONE; night(20) = NONE; night(11) = 5; night(2) = 2; night(1) = 1; night(3) = 6; night(4) = 0
            """);
        RUNS.of("MISSED, each of seven", SEVEN, """
            set(6, 0, 199) = 0
            night(0) = 0; night(1) = 0; night(2) = 0; night(3) = 199; night(4) = 0; night(16) = NONE; night(26) = NONE
            """);
        RUNS.of("FOUND, each of seven", SEVEN, """
            night(0) = 70; night(1) = 7; night(2) = 127; night(3) = 35; night(4) = 0; night(16) = 34; night(26) = 0
            """);
    }

    private static void worth() {
        RUNS.of("WORTH: PAYS of all FOUND, together, less waits times TICKS he WAITED", """
            sight(0, 0, 0) = 0; set(10, 0, 195) = 0
            rule "turns 0 ; finds 5 ; waits 9 ;"
            night(0) = -1745; night(4) = 195
            set(7, 0, 194) = 199; night(0) = 0; night(4) = 0
            """);
        RUNS.of("less waits times TICKS he WAITED, of each", """
            sight(0, 1, 0) = 0; sight(0, 3, 0) = 1; set(10, 0, 2) = 0; set(10, 1, 6) = 0
            rule "turns 0 ; finds 1 ; waits number ;"
            night(4) = 5; night(20) = 2; night(21) = 3; night(0) = 9
            """);
        RUNS.of("PAYS of all FOUND: of the most that there can be", """
            sight(3, 9, 0) = 0; sight(3, 9, 0) = 1; sight(3, 9, 0) = 2; sight(3, 9, 0) = 3
            sight(3, 9, 0) = 4; sight(3, 9, 0) = 5; sight(3, 9, 0) = 6
            set(12, 0, 99) = 10; set(12, 1, 99) = 10; set(12, 2, 99) = 10; set(12, 3, 99) = 10
            set(12, 4, 99) = 10; set(12, 5, 99) = 10; set(12, 6, 99) = 10
            night(0) = 1512; best(0) = 1512; set(12, 6, 0) = 99; night(0) = 1314
            """);
    }

    private static void whatIsAskedOfANight() {
        RUNS.of("9: -100000: what, no such SIGHT (of two)", """
            sight(0, 0, 0) = 0; sight(0, 0, 0) = 1
            night(-1) = -100000; night(0) = 20; night(4) = 0; night(5) = -100000; night(9) = -100000
            night(10) = 4; night(11) = 9; night(12) = -100000; night(19) = -100000
            night(20) = 0; night(21) = 0; night(22) = -100000; night(29) = -100000; night(30) = -100000; night(31) = -100000
            night(-10) = -100000; night(-20) = -100000; night(110) = -100000
            night(2147483647) = -100000; night(-2147483648) = -100000
            """);
        RUNS.of("9: -100000: what, no such SIGHT (of seven)", SEVEN, """
            night(9) = -100000; night(16) = 34; night(17) = -100000; night(18) = -100000; night(19) = -100000
            night(26) = 0; night(27) = -100000; night(28) = -100000; night(29) = -100000; night(30) = -100000
            """);
    }

    private static void whatIsToldOfANight() {
        RUNS.of("9: WORTH (what 0), how many are FOUND (1), FOUND (2), the TICK (3), how many TICKS he WAITED (4)", """
            sight(0, 0, 3) = 0; sight(0, 0, 39) = 1; sight(0, 0, 30) = 2; set(10, 1, 20) = 0; set(11, 2, 33) = 199
            rule "turns far ; finds 5 ; waits 2 ;"
            night(0) = 8; night(1) = 2; night(2) = 3; night(3) = 25; night(4) = 6
            night(10) = 7; night(11) = 24; night(12) = NONE; night(20) = 0; night(21) = 6; night(22) = NONE
            """);
        RUNS.of("9: PLAIN: all by numbers, whatever comes first", """
            sight(0, 0, 99) = 0; sight(0, 0, 0) = 1
            night(10) = 13; night(11) = 27
            """);
        RUNS.of("9: the TICK in which he is at last (3; 200 at most)", """
            sight(0, 0, 0) = 0; sight(0, 0, 99) = 1; set(6, 0, 195) = 0; night(3) = 200; night(2) = 1
            """);
    }

    private static void anOrder() {
        RUNS.of("10: A NIGHT by a SHEET's order: likewise", """
            sight(0, 0, 9) = 0; sight(0, 0, 0) = 1; set(10, 0, 20) = 0
            rule "turns far ; finds 5 ; waits 1 ;"
            row 0 0 = 1 0
            order(0, 0) = 14; order(0, 1) = 2; order(0, 2) = 3; order(0, 3) = 25; order(0, 4) = 6
            order(0, 10) = 24; order(0, 11) = 4; order(0, 20) = 6; order(0, 21) = 0
            order(0, -1) = -100000; order(0, 5) = -100000; order(0, 9) = -100000
            order(0, 12) = -100000; order(0, 19) = -100000; order(0, 22) = -100000; order(0, 29) = -100000
            order(0, 30) = -100000; order(0, 2147483647) = -100000; order(0, -2147483648) = -100000
            """);
        RUNS.of("10: of bytes, of shorts, of ints", """
            sight(0, 0, 0) = 0; sight(0, 0, 0) = 1
            row 0 0 = 1 0
            row 1 1 = 1 0
            row 3 2 = 1 0
            order(0, 10) = 9; order(1, 10) = 9; order(3, 10) = 9; order(2, 10) = -100000
            """);
        RUNS.of("10: of seven", SEVEN, """
            row 0 1 = 6 5 4 3 2 1 0
            order(0, 10) = 34; order(0, 16) = 4; order(0, 26) = 0; order(0, 17) = -100000; order(0, 27) = -100000
            """);
    }

    private static void anOrderOfUnlikeOnes() {
        RUNS.of("10: of each by the order: its own KIND, NUMBER, SPOT, and which one it is", """
            sight(0, 7, 0) = 0; sight(3, 3, 50) = 1; sight(2, 5, 0) = 2; set(11, 2, 0) = 199; set(7, 0, 0) = 199
            row 0 0 = 1 2 0
            order(0, 10) = 24; order(0, 11) = 14; order(0, 12) = NONE; order(0, 2) = 3; order(0, 1) = 2; order(0, 0) = 36
            rule "turns number ; finds 5 ; waits 0 ;"
            order(0, 11) = 12; order(0, 10) = 24; order(0, 3) = 25
            rule "turns order * 9 ; finds 5 ; waits 0 ;"
            order(0, 11) = NONE; order(0, 10) = 22; order(0, 2) = 1
            rule "turns 3 + height ; finds 5 ; waits 0 ;"
            order(0, 11) = 17; order(0, 10) = 25
            """);
    }

    private static void ordersThatAreNone() {
        RUNS.of("10: -100000: SHEET; it is missing", """
            sight(0, 0, 0) = 0
            row 3 0 = 0
            order(-1, 0) = -100000; order(4, 0) = -100000; order(0, 0) = -100000; order(3, 0) = 10
            order(2147483647, 0) = -100000; order(-2147483648, 0) = -100000
            sheet(3, -1, 0) = 1; order(3, 0) = -100000
            """);
        RUNS.of("10: -100000: it doesn't tell each once", """
            sight(0, 0, 0) = 0; sight(0, 0, 0) = 1
            row 0 2 = 0
            order(0, 0) = -100000
            row 0 2 = 0 1 0
            order(0, 0) = -100000
            row 0 2 = 0 1 2
            order(0, 0) = -100000
            row 0 2 = 0 0
            order(0, 0) = -100000
            row 0 2 = 1 1
            order(0, 0) = -100000
            row 0 2 = 0 2
            order(0, 0) = -100000
            row 0 2 = -1 0
            order(0, 0) = -100000
            row 0 2 = 32 33
            order(0, 0) = -100000
            row 0 2 =
            order(0, 0) = -100000
            row 0 2 = 2147483647 -2147483648
            order(0, 0) = -100000
            row 0 2 = 0 1
            order(0, 0) = 20
            """);
        RUNS.of("10: an order that was one isn't, when one more SIGHT comes", """
            sight(0, 0, 0) = 0; sight(0, 0, 0) = 1
            row 0 0 = 1 0
            order(0, 0) = 20; sight(0, 0, 0) = 2; order(0, 0) = -100000
            """);
    }

    private static void ordersOfAnEmptySky() {
        RUNS.of("10: an empty sky's order is empty", """
            order(0, 0) = -100000
            row 0 0 =
            order(0, 0) = 0; order(0, 1) = 0; order(0, 2) = 0; order(0, 3) = 0; order(0, 4) = 0; order(0, 10) = -100000
            set(6, 0, 77) = 0; order(0, 3) = 77
            row 0 0 = 0
            order(0, 0) = -100000
            """);
    }
}
