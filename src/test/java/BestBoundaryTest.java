// Each sentence of the document that names a boundary of what would be best: Terms, block 2, its second
// paragraph; promises 11 to 18. By TEXT 0 one is FOUND in 5 TICKS, having turned by FAR.
public final class BestBoundaryTest {
    private static final Runs RUNS = new Runs();
    private static final String SEVEN = """
        sight(0, 0, 0) = 0; sight(0, 0, 0) = 1; sight(0, 0, 0) = 2; sight(0, 0, 0) = 3
        sight(0, 0, 0) = 4; sight(0, 0, 0) = 5; sight(0, 0, 0) = 6
        """;

    public static void main(String[] args) {
        whatIsAsked();
        best();
        bestFromEachSpot();
        bestAndWhichOneItIs();
        bestOfLikeOnes();
        setting();
        late();
        lateByHowMany();
        sleep();
        sleepOfLikeOnes();
        moon();
        leave();
        two();
        cloud();
        RUNS.end();
    }

    private static void whatIsAsked() {
        for (String call : new String[] {"best(", "setting(", "moon(", "leave(", "two(", "sleep(1, ", "sleep(99, "}) {
            RUNS.of("11, 12, 14 .. 17: -100000: what: " + call + "..)", "sight(0, 0, 0) = 0",
                call + "-1) = -100000; " + call + "2) = -100000; " + call + "10) = -100000",
                call + "2147483647) = -100000; " + call + "-2147483648) = -100000");
        }
        RUNS.of("11, 12, 14 .. 17: what 0 and 1 of one SIGHT", """
            sight(0, 0, 0) = 0
            best(0) = 10; best(1) = 1; setting(0) = 10; setting(1) = 1; moon(0) = 0; moon(1) = 10
            leave(0) = NONE; leave(1) = 10; two(0) = 0; two(1) = 10; sleep(1, 0) = 0; sleep(1, 1) = 10
            late() = 195; cloud() = 0
            """);
        RUNS.of("14: -100000: n, what; n TICKS (1 .. 99)", """
            sight(0, 0, 0) = 0
            sleep(0, 0) = -100000; sleep(1, 0) = 0; sleep(99, 0) = 0; sleep(100, 0) = -100000
            sleep(0, 1) = -100000; sleep(1, 1) = 10; sleep(99, 1) = 10; sleep(100, 1) = -100000
            sleep(-1, 0) = -100000; sleep(2147483647, 0) = -100000; sleep(-2147483648, 1) = -100000
            sleep(0, 2) = -100000; sleep(100, -1) = -100000
            """);
    }

    private static void best() {
        RUNS.of("BEST: of all orders of all: of seven the last one", SEVEN, """
            set(11, 6, 4) = 199; set(11, 5, 9) = 199; set(11, 4, 14) = 199; set(11, 3, 19) = 199
            set(11, 2, 24) = 199; set(11, 1, 29) = 199; set(11, 0, 34) = 199
            best(0) = 70; best(1) = 7654321
            set(11, 0, 33) = 34; best(0) = 60
            """);
        RUNS.of("BEST: that of most WORTH, not that by which most are FOUND", """
            sight(0, 0, 0) = 0; sight(0, 0, 0) = 1; sight(0, 0, 0) = 2
            set(11, 0, 8) = 199; set(11, 1, 8) = 199; set(11, 2, 8) = 199; set(12, 1, 12) = 10; set(12, 2, 11) = 10
            best(0) = 12; best(1) = 213
            """);
        RUNS.of("BEST: a WORTH below 0 is one, too", """
            sight(0, 0, 0) = 0; set(10, 0, 195) = 0
            rule "turns 0 ; finds 5 ; waits 9 ;"
            best(0) = -1745; best(1) = 1
            """);
        RUNS.of("BEST: of all: none may be left out, though it costs", """
            sight(0, 0, 0) = 0; sight(0, 0, 0) = 1; set(10, 1, 195) = 0; set(11, 0, 4) = 199
            rule "turns 0 ; finds 5 ; waits 9 ;"
            best(0) = -1690; best(1) = 12
            set(11, 0, 199) = 4; best(0) = -1690; best(1) = 12
            """);
    }

    private static void bestFromEachSpot() {
        RUNS.of("BEST: of all orders: by each he begins where, when he BEGINS", """
            sight(0, 0, 9) = 0; sight(0, 0, 5) = 1; set(11, 1, 8) = 199
            best(0) = 10; best(1) = 12; set(11, 1, 9) = 8; best(0) = 20; best(1) = 21
            set(11, 0, 18) = 199; best(0) = 20; set(11, 0, 17) = 18; best(0) = 10; best(1) = 12
            """);
    }

    private static void bestAndWhichOneItIs() {
        RUNS.of("BEST, BY SETTING: which one of the order it is goes by that order", """
            sight(0, 0, 0) = 0; sight(0, 0, 0) = 1; set(11, 1, 4) = 199
            rule "turns order * 9 ; finds 5 ; waits 0 ;"
            night(0) = 10; best(0) = 20; best(1) = 21; setting(0) = 20; setting(1) = 21
            """);
        RUNS.of("BEST: that of most WORTH: one that pays less may come first", """
            sight(0, 0, 0) = 0; sight(0, 0, 0) = 1; set(11, 1, 4) = 199; set(12, 0, 99) = 10; best(0) = 109; best(1) = 21
            """);
        RUNS.of("SLEEP: which one of the order it is goes by that order, asleep or not", """
            sight(0, 0, 0) = 0; sight(0, 0, 0) = 1; set(7, 0, 0) = 199; set(10, 1, 11) = 0
            rule "turns order * 9 ; finds 5 ; waits 0 ;"
            sleep(1, 0) = 0; sleep(1, 1) = 20
            """);
    }

    private static void bestOfLikeOnes() {
        RUNS.of("BEST: of like ones the first", SEVEN, "best(1) = 1234567; best(0) = 70");
        RUNS.of("BEST: of like ones the first: of those in which 2 is ahead", """
            sight(0, 0, 0) = 0; sight(0, 0, 0) = 1; sight(0, 0, 0) = 2; set(11, 2, 4) = 199
            best(1) = 312; set(11, 2, 9) = 4; best(1) = 132; set(11, 2, 14) = 9; best(1) = 123
            """);
        RUNS.of("BEST: of like ones the first, where all are MISSED", SEVEN, """
            set(6, 0, 199) = 0; best(0) = 0; best(1) = 1234567
            """);
        RUNS.of("BEST: of like ones the first: the PAYS of one that is MISSED doesn't count", """
            sight(0, 0, 0) = 0; sight(0, 0, 0) = 1; set(12, 0, 99) = 10; set(10, 0, 199) = 0; set(12, 1, 0) = 10
            best(0) = 0; best(1) = 12
            """);
        RUNS.of("BEST: 1 more makes it better", """
            sight(0, 0, 0) = 0; sight(0, 0, 0) = 1; set(11, 0, 4) = 199; set(11, 1, 4) = 199
            best(1) = 12; set(12, 1, 11) = 10; best(1) = 21; best(0) = 11; set(12, 1, 9) = 11; best(1) = 12; best(0) = 10
            """);
    }

    private static void setting() {
        RUNS.of("BY SETTING: by SET, the least first (of like ones by numbers)", SEVEN, """
            setting(1) = 1234567; setting(0) = 70
            set(11, 6, 198) = 199; setting(1) = 7123456
            set(11, 0, 198) = 199; setting(1) = 1723456
            set(11, 3, 0) = 199; setting(1) = 4172356; setting(0) = 60
            set(11, 5, 0) = 199; setting(1) = 4617235; setting(0) = 50
            """);
        RUNS.of("BY SETTING: by SET, not by the last TICK in which it SHINES", """
            sight(2, 9, 0) = 0; sight(0, 0, 0) = 1; set(11, 0, 50) = 199; set(11, 1, 51) = 199
            setting(1) = 12; set(11, 1, 50) = 51; setting(1) = 12; set(11, 1, 49) = 50; setting(1) = 21
            """);
        RUNS.of("BY SETTING: WORTH, if one waits by it", """
            sight(0, 0, 0) = 0; sight(0, 0, 0) = 1; set(11, 1, 104) = 199; set(10, 1, 100) = 0; set(11, 0, 105) = 199
            setting(1) = 21; setting(0) = 10; night(0) = 20; best(0) = 20
            """);
    }

    private static void late() {
        RUNS.of("LATE: the greatest TICK (0 .. 199): 199", """
            sight(0, 0, 0) = 0
            rule "turns 0 ; finds 1 ; waits 0 ;"
            late() = 199; set(11, 0, 198) = 199; late() = 198
            """);
        RUNS.of("LATE: the greatest TICK (0 .. 199): 0", """
            sight(0, 0, 0) = 0; set(11, 0, 4) = 199; late() = 0; told(0, 6) = 0
            set(11, 0, 5) = 4; late() = 1; set(11, 0, 3) = 5; late() = 199
            """);
        RUNS.of("LATE: also where it isn't so in each TICK ahead of it", """
            sight(0, 0, 0) = 0; set(7, 0, 0) = 199; set(6, 0, 100) = 0
            set(10, 0, 100) = 0; set(11, 0, 110) = 199; late() = 106
            set(6, 0, 0) = 100; late() = 199
            new
            sight(5, 4, 0) = 0; set(6, 0, 1) = 0; set(7, 0, 0) = 199; late() = 193
            """);
        RUNS.of("13: NONE can't be: the TICK in which he BEGINS is one", SEVEN, """
            set(11, 6, 34) = 199; late() = 0; set(6, 0, 199) = 0; late() = 199; told(0, 6) = 199
            """);
    }

    private static void lateByHowMany() {
        RUNS.of("LATE: no fewer would be FOUND than now: as many are enough, whichever", """
            sight(0, 0, 0) = 0; sight(0, 0, 0) = 1; set(7, 0, 0) = 199; set(12, 0, 99) = 10; set(12, 1, 0) = 10
            set(11, 0, 4) = 199; set(10, 1, 100) = 0; night(0) = 99; night(1) = 1; late() = 195
            """);
        RUNS.of("LATE: no fewer would be FOUND than now: more are, too", """
            sight(0, 0, 0) = 0; sight(0, 0, 0) = 1; set(7, 0, 0) = 199
            set(10, 0, 100) = 0; set(11, 0, 120) = 199; set(10, 1, 0) = 0; set(11, 1, 190) = 199
            set(6, 0, 10) = 0; night(1) = 1; late() = 186
            set(6, 0, 100) = 10; night(1) = 2; late() = 116
            """);
    }

    private static void sleep() {
        RUNS.of("SLEEP: 0 .. how many SIGHTS there are: behind all", SEVEN, """
            set(11, 0, 4) = 199; set(11, 1, 9) = 199; set(11, 2, 14) = 199; set(11, 3, 19) = 199
            set(11, 4, 24) = 199; set(11, 5, 29) = 199; set(11, 6, 34) = 199
            sleep(1, 0) = 7; sleep(1, 1) = 70; sleep(99, 0) = 7; set(11, 6, 35) = 34; sleep(1, 0) = 6; sleep(2, 0) = 7
            """);
        RUNS.of("SLEEP: the place k of the order, ahead of which: each in turn", """
            sight(0, 0, 0) = 0; sight(0, 0, 0) = 1; sight(0, 0, 0) = 2; sleep(99, 0) = 0
            set(11, 0, 4) = 199; sleep(99, 0) = 1; sleep(99, 1) = 30
            set(11, 1, 9) = 199; sleep(99, 0) = 2; sleep(99, 1) = 30
            set(11, 2, 14) = 199; sleep(99, 0) = 3; sleep(99, 1) = 30
            """);
        RUNS.of("SLEEP: (so that it is n TICKS later)", """
            sight(0, 0, 0) = 0; set(7, 0, 0) = 199; set(11, 0, 103) = 199; set(10, 0, 99) = 0
            sleep(98, 0) = 0; sleep(98, 1) = 0; sleep(99, 0) = 0; sleep(99, 1) = 10; set(6, 0, 1) = 0
            sleep(98, 1) = 10; sleep(97, 1) = 0; sleep(99, 1) = 0
            """);
        RUNS.of("SLEEP: till behind TICK 199", """
            sight(0, 0, 0) = 0; sight(0, 0, 0) = 1; set(6, 0, 100) = 0
            sleep(90, 0) = 0; sleep(90, 1) = 20; sleep(91, 0) = 2; sleep(91, 1) = 20; sleep(96, 0) = 2; sleep(96, 1) = 20
            set(6, 0, 199) = 100; sleep(99, 0) = 0; sleep(99, 1) = 0
            """);
        RUNS.of("SLEEP: asleep he doesn't wait, and it costs nothing", """
            sight(0, 0, 0) = 0; set(10, 0, 10) = 0
            rule "turns 0 ; finds 5 ; waits 1 ;"
            night(0) = 0; sleep(10, 0) = 0; sleep(10, 1) = 10; sleep(9, 1) = 9; sleep(11, 1) = 10
            """);
    }

    private static void sleepOfLikeOnes() {
        RUNS.of("SLEEP: of like ones the first", SEVEN, "sleep(1, 0) = 0; sleep(99, 0) = 0; sleep(99, 1) = 70");
        RUNS.of("SLEEP: WORTH would be most, though it is less than now", """
            sight(0, 0, 0) = 0; sight(0, 0, 0) = 1; set(7, 0, 0) = 199
            set(11, 0, 4) = 199; set(11, 1, 9) = 199; sleep(1, 0) = 2; sleep(1, 1) = 20
            rule "turns 0 ; finds 5 ; waits 9 ;"
            set(7, 0, 199) = 0; set(11, 1, 199) = 9; set(10, 1, 195) = 0; night(0) = -1690; sleep(99, 0) = 1; sleep(99, 1) = -799
            """);
        RUNS.of("SLEEP: of an empty sky there is place 0 alone", "sleep(1, 0) = 0; sleep(99, 0) = 0; sleep(99, 1) = 0");
    }

    private static void moon() {
        RUNS.of("MOON: by which WORTH, PLAIN, is most: 9", """
            sight(0, 0, 0) = 0; set(10, 0, 9) = 0; set(0, 0, 4) = 0
            rule "turns moon ; finds 5 ; waits 1 ;"
            moon(0) = 9; moon(1) = 10; set(10, 0, 8) = 9; moon(0) = 8; moon(1) = 10; set(10, 0, 10) = 8; moon(0) = 9; moon(1) = 9
            told(0, 0) = 4; night(0) = 4
            """);
        RUNS.of("MOON: of like ones the least", """
            sight(1, 0, 0) = 0; set(0, 0, 9) = 0; moon(0) = 0; moon(1) = 10; told(0, 0) = 9
            set(11, 0, 4) = 199; moon(0) = 0; moon(1) = 10; night(0) = 0
            """);
        RUNS.of("MOON: of like ones the least, where none is FOUND by any", """
            sight(1, 0, 0) = 0; set(11, 0, 3) = 199; set(0, 0, 9) = 0; moon(0) = 0; moon(1) = 0
            """);
        RUNS.of("MOON: a WORTH below 0 is one, too", """
            sight(0, 0, 0) = 0; set(10, 0, 195) = 0
            rule "turns moon = 3 ; finds 5 ; waits 9 ;"
            moon(0) = 3; moon(1) = -1736
            """);
    }

    private static void leave() {
        RUNS.of("LEAVE OUT: if more than now; NONE (16: as now, if none)", """
            sight(0, 0, 0) = 0; sight(0, 0, 0) = 1; set(11, 1, 8) = 199
            leave(0) = NONE; leave(1) = 10; set(12, 1, 11) = 10; leave(0) = 0; leave(1) = 11
            set(12, 1, 9) = 11; leave(0) = NONE; leave(1) = 10
            """);
        RUNS.of("LEAVE OUT: of like ones the first", SEVEN, """
            set(11, 6, 29) = 199; set(12, 6, 11) = 10; leave(0) = 0; leave(1) = 61
            set(12, 2, 9) = 10; leave(0) = 2; leave(1) = 61; set(12, 4, 9) = 10; leave(0) = 2; leave(1) = 60
            """);
        RUNS.of("LEAVE OUT: the last of seven", SEVEN, """
            rule "turns 0 ; finds 5 ; waits 1 ;"
            set(10, 6, 41) = 0; leave(0) = 6; leave(1) = 60; set(10, 6, 40) = 41; leave(0) = NONE; leave(1) = 60
            set(10, 6, 39) = 40; leave(0) = NONE; leave(1) = 61
            """);
        RUNS.of("LEAVE OUT: the others are in an order of their own", """
            sight(0, 0, 0) = 0; sight(0, 0, 0) = 1; set(11, 0, 2) = 199; set(11, 1, 4) = 199
            rule "turns order ; finds 5 ; waits 0 ;"
            night(0) = 0; leave(0) = 0; leave(1) = 10
            """);
        RUNS.of("LEAVE OUT: the one that there is", """
            sight(0, 0, 0) = 0; set(10, 0, 195) = 0
            rule "turns 0 ; finds 5 ; waits 9 ;"
            leave(0) = 0; leave(1) = 0
            """);
    }

    private static void two() {
        RUNS.of("TWO: of like ones the least as bits: none of them", SEVEN, "two(0) = 0; two(1) = 70");
        RUNS.of("TWO: a set (bits): the greatest that can be the least", SEVEN, """
            set(11, 6, 4) = 199; two(0) = 63; two(1) = 70
            """);
        RUNS.of("TWO: each of one of two who BEGIN so", """
            sight(0, 0, 44) = 0; sight(0, 0, 44) = 1; set(5, 0, 44) = 0; set(6, 0, 50) = 0
            set(11, 0, 54) = 199; set(11, 1, 54) = 199; two(0) = 1; two(1) = 20
            set(11, 0, 53) = 54; two(0) = 0; two(1) = 10; set(11, 1, 53) = 54; two(0) = 0; two(1) = 0
            """);
        RUNS.of("TWO: each PLAIN, in an order of their own", """
            sight(0, 0, 0) = 0; sight(0, 0, 0) = 1; set(11, 0, 4) = 199; set(11, 1, 4) = 199
            rule "turns order ; finds 5 ; waits 0 ;"
            two(0) = 1; two(1) = 20
            """);
        RUNS.of("TWO: together, also below 0: both begin with waiting", """
            sight(0, 0, 0) = 0; sight(0, 0, 0) = 1; set(10, 0, 100) = 0; set(10, 1, 100) = 0
            rule "turns 0 ; finds 5 ; waits 1 ;"
            night(0) = -80; two(0) = 0; two(1) = -80
            """);
    }

    private static void cloud() {
        String hidden = "set(1, 0, 0) = 9; set(2, 0, 0) = 0; sight(0, 0, 0) = 0; sight(0, 0, 5) = 1";
        RUNS.of("CLOUD'S COST: WORTH, PLAIN, were there none, less WORTH", hidden, """
            cloud() = 0; set(3, 0, 0) = 199; cloud() = 0; set(4, 0, 194) = 0; cloud() = 10; set(4, 0, 199) = 194; cloud() = 10
            set(2, 0, 9) = 0; cloud() = 20; told(0, 1) = 0; told(0, 2) = 9; told(0, 3) = 0; told(0, 4) = 199
            """);
        RUNS.of("CLOUD'S COST: below 0, where it saves more than it hides", """
            sight(0, 0, 0) = 0; set(10, 0, 30) = 0
            rule "turns 0 ; finds 5 ; waits 1 ;"
            night(0) = -20; cloud() = 0
            set(1, 0, 0) = 9; set(2, 0, 0) = 0; set(3, 0, 0) = 199; set(4, 0, 199) = 0; night(0) = 0; cloud() = -20
            """);
    }
}
