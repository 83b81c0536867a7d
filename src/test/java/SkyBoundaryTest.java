// Each sentence of the document that names a boundary of the sky and of its SIGHTS: Terms, block 1,
// its first paragraph and SHINES, NEEDS, PAYS; promises 1 to 5.
public final class SkyBoundaryTest {
    private static final Runs RUNS = new Runs();

    public static void main(String[] args) {
        constants();
        anEmptySky();
        theSky();
        sights();
        theMoonAndTheCloud();
        heWhoBegins();
        whatSetTakes();
        whatIsTold();
        whatIsAskedOfShines();
        shinesBySight();
        shinesByFaint();
        shinesByBright();
        shinesByFlaring();
        needs();
        pays();
        RUNS.end();
    }

    private static void constants() {
        RUNS.of("NONE is -1; NO -4611686018427387904; BAD (-2), STATE (-3), FULL (-4)");
        RUNS.same("NONE", AHundredSights.NONE, -1);
        RUNS.same("BAD", AHundredSights.BAD, -2);
        RUNS.same("STATE", AHundredSights.STATE, -3);
        RUNS.same("FULL", AHundredSights.FULL, -4);
        RUNS.same("NO", AHundredSights.NO, -4611686018427387904L);
    }

    private static void anEmptySky() {
        RUNS.of("1: An empty sky", """
            count(0) = 0; count(1) = 1; count(2) = 0; count(3) = 0
            told(0, 0) = 0; told(0, 1) = 9; told(0, 2) = 0; told(0, 3) = 199; told(0, 4) = 0
            told(0, 5) = 0; told(0, 6) = 0; told(0, 7) = 199; told(0, 8) = BAD; told(0, 14) = BAD
            shines(0, 0, 0) = BAD; set(8, 0, 0) = BAD; taken(0, 0) = -11
            night(0) = 0; night(1) = 0; night(2) = 0; night(3) = 0; night(4) = 0
            night(10) = -100000; night(20) = -100000
            cell(0, 0, 0) = -11; cell(1, 0, 0) = -11; cell(2, 0, 0) = -11; cell(3, 0, 0) = -11
            back() = STATE
            """);
        RUNS.of("what an empty sky answers to what would be best", """
            best(0) = 0; best(1) = 0; setting(0) = 0; setting(1) = 0; late() = 199
            sleep(1, 0) = 0; sleep(99, 1) = 0; moon(0) = 0; moon(1) = 0
            leave(0) = NONE; leave(1) = 0; two(0) = 0; two(1) = 0; cloud() = 0
            """);
        RUNS.of("what an empty sky answers to lists", """
            drawn(7) = 0; chance(7, 20, 0) = 1; chance(7, 20, 1) = 1
            film(0) = 0; order(0, 0) = 0; order(0, 3) = 0; order(0, 10) = -100000
            lists(0, 0) = 0; lists(0, 1) = 100; lists(0, 2) = 0; lists(0, 3) = 1023; lists(0, 4) = 1
            lists(0, 10) = BAD; lists(0, 20) = BAD
            image() = 0; back() = 0
            """);
    }

    private static void theSky() {
        RUNS.of("TICKS 0 .. 199", """
            sight(0, 0, 0) = 0
            shines(0, -1, 0) = BAD; shines(0, 0, 0) = 1; shines(0, 199, 0) = 1; shines(0, 200, 0) = BAD
            shines(0, -1, 1) = BAD; shines(0, 0, 1) = 0; shines(0, 199, 1) = 0; shines(0, 200, 1) = BAD
            """);
        RUNS.of("SPOTS 0 .. 99", """
            sight(0, 0, -1) = BAD; sight(0, 0, 0) = 0; sight(0, 0, 99) = 1; sight(0, 0, 100) = BAD
            count(0) = 2; told(0, 9) = 0; told(1, 9) = 99
            set(9, 0, -1) = BAD; set(9, 0, 100) = BAD; told(0, 9) = 0; set(9, 0, 99) = 0; set(9, 0, 0) = 99
            set(5, 0, -1) = BAD; set(5, 0, 100) = BAD; told(0, 5) = 0; set(5, 0, 99) = 0; set(5, 0, 0) = 99
            """);
        // TEXT 0 turns by far and finds in 5: from SPOT to SPOT it is FOUND in FAR + 4.
        RUNS.of("10 times y, and x; FAR of two: by how much their x or their y are apart, whichever is more", """
            sight(0, 0, 0) = 0; night(10) = 4
            set(9, 0, 1) = 0; night(10) = 5
            set(9, 0, 10) = 1; night(10) = 5
            set(9, 0, 11) = 10; night(10) = 5
            set(9, 0, 9) = 11; night(10) = 13
            set(9, 0, 90) = 9; night(10) = 13
            set(9, 0, 99) = 90; night(10) = 13
            set(5, 0, 99) = 0; night(10) = 4
            set(9, 0, 0) = 99; night(10) = 13
            set(5, 0, 9) = 99; set(9, 0, 10) = 0; night(10) = 13
            set(5, 0, 45) = 9; set(9, 0, 22) = 10; night(10) = 7
            set(9, 0, 64) = 22; night(10) = 6
            """);
    }

    private static void sights() {
        RUNS.of("SIGHTS (7 at most, numbered from 0)", """
            sight(0, 0, 0) = 0; sight(1, 1, 1) = 1; sight(2, 2, 2) = 2; sight(3, 3, 3) = 3
            sight(4, 4, 4) = 4; sight(5, 5, 5) = 5; sight(0, 6, 6) = 6
            sight(0, 7, 7) = FULL
            count(0) = 7; told(6, 8) = 6; told(7, 8) = BAD; told(-1, 8) = BAD
            """);
        RUNS.of("3: BAD; FULL: BAD is the first that its words name", """
            sight(0, 0, 0) = 0; sight(0, 0, 0) = 1; sight(0, 0, 0) = 2; sight(0, 0, 0) = 3
            sight(0, 0, 0) = 4; sight(0, 0, 0) = 5; sight(0, 0, 0) = 6
            sight(6, 0, 0) = BAD; sight(-1, 0, 0) = BAD; sight(0, 10, 0) = BAD; sight(0, -1, 0) = BAD
            sight(0, 0, 100) = BAD; sight(0, 0, -1) = BAD; sight(5, 9, 99) = FULL; count(0) = 7
            """);
        RUNS.of("a KIND: 0 SIGHT .. 5 FLARING", """
            sight(-1, 0, 0) = BAD; sight(6, 0, 0) = BAD; sight(-2147483648, 0, 0) = BAD; sight(2147483647, 0, 0) = BAD
            count(0) = 0
            sight(0, 0, 0) = 0; sight(5, 0, 0) = 1; told(0, 13) = 0; told(1, 13) = 5
            """);
        RUNS.of("a NUMBER (0 .. 9)", """
            sight(0, -1, 0) = BAD; sight(0, 10, 0) = BAD; count(0) = 0
            sight(0, 0, 0) = 0; sight(0, 9, 0) = 1; told(0, 8) = 0; told(1, 8) = 9
            set(8, 0, -1) = BAD; set(8, 0, 10) = BAD; told(0, 8) = 0; set(8, 0, 9) = 0; set(8, 0, 0) = 9
            """);
        RUNS.of("RISE in a TICK, SET in one no less (0, 199 as one comes)", """
            sight(0, 0, 0) = 0; told(0, 10) = 0; told(0, 11) = 199
            set(10, 0, -1) = BAD; set(10, 0, 200) = BAD; set(11, 0, -1) = BAD; set(11, 0, 200) = BAD
            set(10, 0, 199) = 0; told(0, 11) = 199; set(11, 0, 198) = BAD
            set(10, 0, 0) = 199; set(11, 0, 0) = 199; set(10, 0, 1) = BAD
            """);
        RUNS.of("2: RISE (10), SET (11; neither above the other)", """
            sight(0, 0, 0) = 0; set(11, 0, 60) = 199; set(10, 0, 61) = BAD; told(0, 10) = 0
            set(10, 0, 60) = 0; set(11, 0, 59) = BAD; told(0, 11) = 60
            set(11, 0, 60) = 60; set(10, 0, 60) = 60; set(10, 0, 59) = 60; set(11, 0, 61) = 60
            """);
        RUNS.of("have a WORTH (0 .. 99; 10 as one comes)", """
            sight(0, 0, 0) = 0; told(0, 12) = 10
            set(12, 0, -1) = BAD; set(12, 0, 100) = BAD; told(0, 12) = 10; set(12, 0, 99) = 10; set(12, 0, 0) = 99
            """);
    }

    private static void theMoonAndTheCloud() {
        RUNS.of("MOON (0 .. 9; 0 at first)", """
            told(0, 0) = 0; set(0, 0, -1) = BAD; set(0, 0, 10) = BAD; told(0, 0) = 0; set(0, 0, 9) = 0; set(0, 0, 0) = 9
            """);
        RUNS.of("CLOUD: LEFT, RIGHT (9, 0 at first) are x", """
            told(0, 1) = 9; set(1, 0, -1) = BAD; set(1, 0, 10) = BAD; told(0, 1) = 9; set(1, 0, 0) = 9; set(1, 0, 9) = 0
            told(0, 2) = 0; set(2, 0, -1) = BAD; set(2, 0, 10) = BAD; told(0, 2) = 0; set(2, 0, 9) = 0; set(2, 0, 0) = 9
            """);
        RUNS.of("CLOUD: FIRST, LAST (199, 0 at first) are TICKS", """
            told(0, 3) = 199; set(3, 0, -1) = BAD; set(3, 0, 200) = BAD; set(3, 0, 0) = 199; set(3, 0, 199) = 0
            told(0, 4) = 0; set(4, 0, -1) = BAD; set(4, 0, 200) = BAD; set(4, 0, 199) = 0; set(4, 0, 0) = 199
            """);
        RUNS.of("over SPOTS whose x is LEFT to RIGHT", """
            sight(0, 0, 3) = 0; sight(0, 0, 14) = 1; sight(0, 0, 95) = 2; sight(0, 0, 46) = 3
            set(1, 0, 4) = 9; set(2, 0, 5) = 0; set(3, 0, 0) = 199; set(4, 0, 199) = 0
            shines(0, 50, 1) = 0; shines(1, 50, 1) = 1; shines(2, 50, 1) = 1; shines(3, 50, 1) = 0
            shines(1, 50, 0) = 1
            """);
        RUNS.of("in TICKS FIRST to LAST", """
            sight(0, 0, 4) = 0; set(1, 0, 4) = 9; set(2, 0, 4) = 0; set(3, 0, 10) = 199; set(4, 0, 20) = 0
            shines(0, 9, 1) = 0; shines(0, 10, 1) = 1; shines(0, 20, 1) = 1; shines(0, 21, 1) = 0
            set(3, 0, 0) = 10; set(4, 0, 199) = 20; shines(0, 0, 1) = 1; shines(0, 199, 1) = 1
            """);
        RUNS.of("where the one is above the other, nowhere", """
            sight(0, 0, 4) = 0; sight(0, 0, 5) = 1; set(3, 0, 0) = 199; set(4, 0, 199) = 0
            set(1, 0, 4) = 9; set(2, 0, 4) = 0; shines(0, 7, 1) = 1; shines(1, 7, 1) = 0
            set(1, 0, 5) = 4; shines(0, 7, 1) = 0; shines(1, 7, 1) = 0; night(0) = 20
            """);
        RUNS.of("where the one is above the other, never", """
            sight(0, 0, 4) = 0; set(1, 0, 0) = 9; set(2, 0, 9) = 0
            set(3, 0, 30) = 199; set(4, 0, 30) = 0; shines(0, 29, 1) = 0; shines(0, 30, 1) = 1; shines(0, 31, 1) = 0
            set(3, 0, 31) = 30; shines(0, 30, 1) = 0; shines(0, 31, 1) = 0
            """);
        RUNS.of("at first it is over no SPOT, in no TICK", """
            sight(0, 0, 0) = 0; sight(0, 0, 9) = 1
            shines(0, 0, 1) = 0; shines(0, 199, 1) = 0; shines(1, 0, 1) = 0; shines(1, 199, 1) = 0
            """);
        RUNS.of("5: is in CLOUD: each of seven by its own SPOT", """
            sight(0, 0, 0) = 0; sight(0, 0, 11) = 1; sight(0, 0, 22) = 2; sight(0, 0, 33) = 3
            sight(0, 0, 44) = 4; sight(0, 0, 55) = 5; sight(0, 0, 66) = 6
            set(3, 0, 0) = 199; set(4, 0, 199) = 0; set(1, 0, 0) = 9; shines(0, 9, 1) = 1; shines(1, 9, 1) = 0
            set(2, 0, 6) = 0; set(1, 0, 6) = 0; shines(5, 9, 1) = 0; shines(6, 9, 1) = 1
            """);
        RUNS.of("over all the sky, all the night: all are MISSED", """
            sight(0, 0, 0) = 0; sight(0, 0, 99) = 1
            set(1, 0, 0) = 9; set(2, 0, 9) = 0; set(3, 0, 0) = 199; set(4, 0, 199) = 0
            night(1) = 0; night(10) = NONE; night(11) = NONE; cloud() = 20
            """);
    }

    private static void heWhoBegins() {
        RUNS.of("He BEGINS at a SPOT, in a TICK (0, 0 at first)", """
            told(0, 5) = 0; told(0, 6) = 0
            set(6, 0, -1) = BAD; set(6, 0, 200) = BAD; told(0, 6) = 0; set(6, 0, 199) = 0; set(6, 0, 0) = 199
            """);
        RUNS.of("PATIENCE (0 .. 199; 199 at first)", """
            told(0, 7) = 199
            set(7, 0, -1) = BAD; set(7, 0, 200) = BAD; told(0, 7) = 199; set(7, 0, 0) = 199; set(7, 0, 199) = 0
            """);
    }

    private static void whatSetTakes() {
        RUNS.of("2: set() of 0 .. 12: BAD", """
            sight(0, 4, 44) = 0
            set(-1, 0, 0) = BAD; set(13, 0, 0) = BAD; set(14, 0, 0) = BAD
            set(2147483647, 0, 0) = BAD; set(-2147483648, 0, 0) = BAD
            set(0, 0, 2) = 0; set(12, 0, 2) = 10
            """);
        RUNS.of("2: of does not matter, but of 8 ..", """
            sight(0, 4, 44) = 0; sight(0, 5, 55) = 1
            set(0, -1, 3) = 0; set(0, 7, 4) = 3; set(7, 2147483647, 3) = 199; set(7, -2147483648, 4) = 3
            set(8, -1, 0) = BAD; set(8, 2, 0) = BAD; set(9, -1, 0) = BAD; set(9, 2, 0) = BAD
            set(10, -1, 0) = BAD; set(10, 2, 0) = BAD; set(11, -1, 199) = BAD; set(11, 2, 199) = BAD
            set(12, -1, 0) = BAD; set(12, 2, 0) = BAD; set(12, 2147483647, 0) = BAD; set(12, -2147483648, 0) = BAD
            set(8, 0, 1) = 4; set(8, 1, 2) = 5; told(0, 8) = 1; told(1, 8) = 2
            """);
        RUNS.of("2: becomes v: what it was (each by itself)", """
            sight(0, 4, 44) = 0
            set(0, 0, 1) = 0; set(1, 0, 2) = 9; set(2, 0, 3) = 0; set(3, 0, 4) = 199; set(4, 0, 5) = 0; set(5, 0, 6) = 0
            set(6, 0, 7) = 0; set(7, 0, 8) = 199; set(8, 0, 9) = 4; set(9, 0, 10) = 44; set(10, 0, 11) = 0
            set(11, 0, 12) = 199; set(12, 0, 13) = 10
            told(0, 0) = 1; told(0, 1) = 2; told(0, 2) = 3; told(0, 3) = 4; told(0, 4) = 5; told(0, 5) = 6; told(0, 6) = 7
            told(0, 7) = 8; told(0, 8) = 9; told(0, 9) = 10; told(0, 10) = 11; told(0, 11) = 12; told(0, 12) = 13
            """);
        RUNS.of("2: a v far off is BAD, of each", """
            sight(0, 4, 44) = 0
            set(0, 0, 2147483647) = BAD; set(0, 0, -2147483648) = BAD; set(1, 0, 2147483647) = BAD
            set(2, 0, -2147483648) = BAD; set(3, 0, 2147483647) = BAD; set(4, 0, -2147483648) = BAD
            set(5, 0, 2147483647) = BAD; set(6, 0, -2147483648) = BAD; set(7, 0, 2147483647) = BAD
            set(8, 0, -2147483648) = BAD; set(9, 0, 2147483647) = BAD; set(10, 0, -2147483648) = BAD
            set(11, 0, 2147483647) = BAD; set(12, 0, -2147483648) = BAD
            """);
    }

    private static void whatIsTold() {
        RUNS.of("4: What 0 .. 12 as of set(), 13 KIND, 14 PAYS of a SIGHT. BAD", """
            sight(3, 4, 44) = 0; sight(1, 5, 55) = 1
            told(0, -1) = BAD; told(0, 15) = BAD; told(0, 2147483647) = BAD; told(0, -2147483648) = BAD
            told(-1, 0) = 0; told(2, 7) = 199; told(2147483647, 1) = 9
            told(1, 8) = 5; told(1, 9) = 55; told(1, 10) = 0; told(1, 11) = 199; told(1, 12) = 10; told(1, 13) = 1
            told(1, 14) = 15; told(0, 13) = 3; told(0, 14) = 28
            told(2, 8) = BAD; told(2, 9) = BAD; told(2, 10) = BAD; told(2, 11) = BAD
            told(2, 12) = BAD; told(2, 13) = BAD; told(2, 14) = BAD
            told(-1, 8) = BAD; told(-1, 12) = BAD; told(-1, 13) = BAD; told(-1, 14) = BAD
            told(2147483647, 8) = BAD; told(-2147483648, 14) = BAD
            """);
    }

    private static void whatIsAskedOfShines() {
        RUNS.of("5: whether a SIGHT SHINES (what 0; 1, 0), is in CLOUD (1). BAD", """
            sight(0, 0, 0) = 0; sight(0, 0, 0) = 1
            shines(0, 0, -1) = BAD; shines(0, 0, 0) = 1; shines(0, 0, 1) = 0; shines(0, 0, 2) = BAD
            shines(-1, 0, 0) = BAD; shines(1, 0, 0) = 1; shines(2, 0, 0) = BAD; shines(2, 0, 1) = BAD
            shines(2147483647, 0, 0) = BAD; shines(0, 2147483647, 0) = BAD; shines(0, 0, 2147483647) = BAD
            shines(-2147483648, 0, 0) = BAD; shines(0, -2147483648, 1) = BAD; shines(0, 0, -2147483648) = BAD
            """);
    }

    private static void shinesBySight() {
        RUNS.of("SHINES: SIGHT: if t is RISE .. SET", """
            sight(0, 9, 0) = 0; set(11, 0, 60) = 199; set(10, 0, 50) = 0
            shines(0, 49, 0) = 0; shines(0, 50, 0) = 1; shines(0, 60, 0) = 1; shines(0, 61, 0) = 0
            set(10, 0, 60) = 50; shines(0, 59, 0) = 0; shines(0, 60, 0) = 1; shines(0, 61, 0) = 0
            """);
    }

    private static void shinesByFaint() {
        for (int kind : new int[] {1, 3}) {
            RUNS.of("SHINES: FAINT: as a SIGHT, if t is no less than RISE and NUMBER, else not; LOST: as a FAINT", """
                sight(KIND, 3, 0) = 0; set(11, 0, 60) = 199; set(10, 0, 50) = 0
                shines(0, 49, 0) = 0; shines(0, 50, 0) = 0
                shines(0, 52, 0) = 0; shines(0, 53, 0) = 1; shines(0, 60, 0) = 1; shines(0, 61, 0) = 0; shines(0, 63, 0) = 0
                set(8, 0, 0) = 3; shines(0, 49, 0) = 0; shines(0, 50, 0) = 1; shines(0, 61, 0) = 0
                set(8, 0, 9) = 0; shines(0, 58, 0) = 0; shines(0, 59, 0) = 1; shines(0, 60, 0) = 1
                set(11, 0, 59) = 60; shines(0, 58, 0) = 0; shines(0, 59, 0) = 1; shines(0, 60, 0) = 0
                set(11, 0, 58) = 59; shines(0, 58, 0) = 0; shines(0, 59, 0) = 0
                """.replace("KIND", String.valueOf(kind)));
        }
    }

    private static void shinesByBright() {
        for (int kind : new int[] {2, 4}) {
            RUNS.of("SHINES: BRIGHT: as a SIGHT, or if t is above SET, but not above SET and NUMBER; DOUBLE: as a BRIGHT", """
                sight(KIND, 3, 0) = 0; set(11, 0, 60) = 199; set(10, 0, 50) = 0
                shines(0, 46, 0) = 0; shines(0, 49, 0) = 0; shines(0, 50, 0) = 1
                shines(0, 60, 0) = 1; shines(0, 61, 0) = 1; shines(0, 63, 0) = 1; shines(0, 64, 0) = 0
                set(8, 0, 0) = 3; shines(0, 60, 0) = 1; shines(0, 61, 0) = 0
                set(8, 0, 9) = 0; shines(0, 69, 0) = 1; shines(0, 70, 0) = 0
                set(11, 0, 190) = 60; shines(0, 199, 0) = 1; set(11, 0, 189) = 190; shines(0, 198, 0) = 1; shines(0, 199, 0) = 0
                set(11, 0, 199) = 189; shines(0, 199, 0) = 1; shines(0, 200, 0) = BAD
                """.replace("KIND", String.valueOf(kind)));
        }
    }

    private static void shinesByFlaring() {
        RUNS.of("SHINES: FLARING: as a SIGHT", """
            sight(5, 4, 0) = 0; set(11, 0, 58) = 199; set(10, 0, 50) = 0
            shines(0, 49, 0) = 0; shines(0, 50, 0) = 1; shines(0, 58, 0) = 1; shines(0, 59, 0) = 0
            """);
        RUNS.of("SHINES: FLARING: but not, if t modulo (NUMBER and 2) is 0", """
            sight(5, 4, 0) = 0; shines(0, 0, 0) = 0; shines(0, 1, 0) = 1
            shines(0, 4, 0) = 1; shines(0, 5, 0) = 1; shines(0, 6, 0) = 0; shines(0, 7, 0) = 1; shines(0, 12, 0) = 0
            set(8, 0, 0) = 4; shines(0, 0, 0) = 0; shines(0, 1, 0) = 1; shines(0, 2, 0) = 0; shines(0, 199, 0) = 1
            set(8, 0, 9) = 0; shines(0, 10, 0) = 1; shines(0, 11, 0) = 0; shines(0, 12, 0) = 1; shines(0, 198, 0) = 0
            """);
    }

    /** What kind of SIGHT it is, its NUMBER, then in which TICK it is FOUND by one who begins in TICK 9. */
    private static void dueNeeds(String sentence, String more, int kind, int number, int needs) {
        RUNS.of("NEEDS: " + sentence, "sight(" + kind + ", " + number + ", 0) = 0; set(6, 0, 9) = 0", more,
            "night(10) = " + (9 + needs - 1));
    }

    private static void needs() {
        dueNeeds("SIGHT: v", "set(0, 0, 9) = 0", 0, 6, 5);
        dueNeeds("FAINT: m more than a SIGHT (MOON 0)", "told(0, 0) = 0", 1, 6, 5);
        dueNeeds("FAINT: m more than a SIGHT (MOON 9)", "set(0, 0, 9) = 0", 1, 6, 14);
        dueNeeds("BRIGHT: half (cut) of a SIGHT's; Quotients are cut toward 0: of 5", "set(0, 0, 9) = 0", 2, 6, 2);
        dueNeeds("BRIGHT: half (cut) of a SIGHT's: of 4", "rule \"turns 0 ; finds 4 ; waits 0 ;\"", 2, 6, 2);
        dueNeeds("BRIGHT: half (cut) of a SIGHT's: of 99", "rule \"turns 0 ; finds 99 ; waits 0 ;\"", 2, 6, 49);
        dueNeeds("LOST: twice a FAINT's (MOON 0)", "told(0, 0) = 0", 3, 6, 10);
        dueNeeds("LOST: twice a FAINT's (MOON 9)", "set(0, 0, 9) = 0", 3, 6, 28);
        dueNeeds("DOUBLE: NUMBER more than a BRIGHT (NUMBER 0)", "set(0, 0, 9) = 0", 4, 0, 2);
        dueNeeds("DOUBLE: NUMBER more than a BRIGHT (NUMBER 9)", "set(0, 0, 9) = 0", 4, 9, 11);
        dueNeeds("FLARING: as a SIGHT", "set(0, 0, 9) = 0", 5, 6, 5);
        String one = "rule \"turns 0 ; finds 1 ; waits 0 ;\"";
        dueNeeds("NEEDS 1 at least: half of 1 is 0", one, 2, 6, 1);
        dueNeeds("NEEDS 1 at least: DOUBLE of NUMBER 0", one, 4, 0, 1);
        dueNeeds("1 at least, in the end: a DOUBLE of NUMBER 1 is 1 more than 0", one, 4, 1, 1);
        dueNeeds("1 at least, in the end: a DOUBLE of NUMBER 2 is 2 more than 0", one, 4, 2, 2);
        dueNeeds("LOST: twice 1", one, 3, 0, 2);
        RUNS.of("NEEDS: LOST: twice a FAINT's: more than the night has", """
            sight(3, 0, 0) = 0; set(0, 0, 1) = 0
            rule "turns 0 ; finds 99 ; waits 0 ;"
            night(10) = 199; night(3) = 200
            set(0, 0, 2) = 1; night(10) = NONE; night(3) = 0
            """);
    }

    private static void pays() {
        RUNS.of("PAYS: SIGHT: WORTH; FAINT: NUMBER more; BRIGHT: as a SIGHT; LOST: twice a FAINT's; DOUBLE: 1 more", """
            sight(0, 4, 0) = 0; sight(1, 4, 0) = 1; sight(2, 4, 0) = 2; sight(3, 4, 0) = 3; sight(4, 4, 0) = 4; sight(5, 4, 0) = 5
            told(0, 14) = 10; told(1, 14) = 14; told(2, 14) = 10; told(3, 14) = 28; told(4, 14) = 11; told(5, 14) = 10
            """);
        RUNS.of("PAYS: of the least WORTH and NUMBER", """
            sight(0, 0, 0) = 0; sight(1, 0, 0) = 1; sight(2, 0, 0) = 2; sight(3, 0, 0) = 3; sight(4, 0, 0) = 4; sight(5, 0, 0) = 5
            set(12, 0, 0) = 10; set(12, 1, 0) = 10; set(12, 2, 0) = 10; set(12, 3, 0) = 10; set(12, 4, 0) = 10; set(12, 5, 0) = 10
            told(0, 14) = 0; told(1, 14) = 0; told(2, 14) = 0; told(3, 14) = 0; told(4, 14) = 1; told(5, 14) = 0
            """);
        RUNS.of("PAYS: of the most WORTH and NUMBER", """
            sight(0, 9, 0) = 0; sight(1, 9, 0) = 1; sight(2, 9, 0) = 2; sight(3, 9, 0) = 3; sight(4, 9, 0) = 4; sight(5, 9, 0) = 5
            set(12, 0, 99) = 10; set(12, 1, 99) = 10; set(12, 2, 99) = 10; set(12, 3, 99) = 10; set(12, 4, 99) = 10
            set(12, 5, 99) = 10
            told(0, 14) = 99; told(1, 14) = 108; told(2, 14) = 99; told(3, 14) = 216; told(4, 14) = 100; told(5, 14) = 99
            """);
    }
}
