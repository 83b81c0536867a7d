// Each sentence of the document that names a boundary of THE TAPE, of TEXTS and of their FAULTS: Terms,
// block 1, from "A TEXT is read" on; promises 6 to 8.
public final class TextBoundaryTest {
    private static final Runs RUNS = new Runs();
    private static final String FIRST = "turns far ; finds 5 ; waits 0 ;";
    private static final int MOST_BYTES = 160;

    public static void main(String[] args) {
        feed();
        theTapeIsFull();
        tokens();
        everyByteBehindATextThatStands();
        everyByteAheadOfAText();
        everyByteBetweenTwoTokens();
        theParts();
        sums();
        endsTooEarly();
        openParentheses();
        openNots();
        openMinuses();
        openOnesMixed();
        whatEIs();
        names();
        boundsOfTheThree();
        sixTexts();
        force();
        RUNS.end();
    }

    private static String blanks(int n) {
        return " ".repeat(n);
    }

    /** Each line of it on an object of its own. */
    private static void each(String sentence, String lines) {
        RUNS.of(sentence, lines.replace("\n", "\nnew\n"));
    }

    private static void feed() {
        RUNS.of("6: A byte (0 .. 255) comes behind THE TAPE: how many it has. BAD", """
            feed(-1) = BAD; feed(256) = BAD; feed(2147483647) = BAD; feed(-2147483648) = BAD; count(2) = 0
            feed(0) = 1; feed(255) = 2; count(2) = 2
            """);
        RUNS.of("160 bytes at most; 6: BAD; FULL");
        RUNS.feed(blanks(MOST_BYTES));
        RUNS.due(AHundredSights.FULL, "feed", 32);
        RUNS.due(AHundredSights.FULL, "feed", 0);
        RUNS.due(AHundredSights.BAD, "feed", 256);
        RUNS.due(AHundredSights.BAD, "feed", -1);
        RUNS.due(MOST_BYTES, "count", 2);
    }

    private static void theTapeIsFull() {
        RUNS.of("A TEXT is read from THE TAPE (160 bytes at most): the last byte counts, too");
        RUNS.feed(blanks(MOST_BYTES - FIRST.length()) + FIRST);
        RUNS.due(AHundredSights.FULL, "feed", ';');
        RUNS.due(1, "text");
        RUNS.due(0, "count", 2);
        RUNS.due(1, "feed", 32);
        RUNS.of("the text's size, if it ends too early: of 160 bytes");
        RUNS.feed(blanks(MOST_BYTES - FIRST.length() + 1) + FIRST.substring(0, FIRST.length() - 1));
        RUNS.due(-100 - MOST_BYTES, "text");
        RUNS.due(1, "count", 1);
        RUNS.of("a FAULT in the last of 160 bytes");
        RUNS.feed(FIRST + blanks(MOST_BYTES - FIRST.length() - 1) + ";");
        RUNS.due(-100 - (MOST_BYTES - 1), "text");
        dueLong("an E of as many TERMS as go into 160 bytes", "99" + "-1".repeat(66), 99 - 66);
        dueLong("a TERM of as many ONES as go into 160 bytes", "1" + "*1".repeat(65) + "*7", 7);
        dueLong("an E of as many ANDS as go into 160 bytes: the last is 1", "0" + "or0".repeat(43) + "or9", 1);
        dueLong("an E of as many ANDS as go into 160 bytes: none is 1", "0" + "or0".repeat(44), 0);
        dueLong("an AND of as many NOTS as go into 160 bytes: all are 1", "1" + "and1".repeat(33), 1);
        dueLong("an AND of as many NOTS as go into 160 bytes: the last is 0", "1" + "and1".repeat(32) + "and0", 0);
        dueLong("of or, and, <, +, * each one open, in each of 5 (", "7*(" + "0or 1and 0<1+1*(".repeat(4) + "2" + ")".repeat(5), 7);
    }

    /** What an E tells as turns, of one SIGHT that is FOUND in one TICK; the bytes that are left are blanks. */
    private static void dueLong(String sentence, String e, int want) {
        String text = "turns " + e + ";finds 1 ; waits 0 ;";
        RUNS.of(sentence, "sight(0, 0, 0) = 0");
        RUNS.feed(text + blanks(MOST_BYTES - text.length()));
        RUNS.due(AHundredSights.FULL, "feed", 32);
        RUNS.due(1, "text");
        RUNS.due(0, "force", 1);
        RUNS.due(want, "night", 10);
    }

    private static void tokens() {
        each("TOKENS, each as long as can be: blanks may stand between, and needn't where none is longer", """
            text "turns far;finds 5;waits 0;" = 1
            fault "turns(far)^finds"
            text "turns1;finds1or 2;waits 0;" = 1
            text "\\n turns\\n\\nfar  ;\\nfinds\\n5 ; waits 0 ; \\n" = 1
            """);
        each("WORDS (a .. z), each as long as can be", """
            fault "^turnsfar ; finds 5 ; waits 0 ;"
            fault "turns ^farfar ;"
            fault "turns ^fart ;"
            fault "turns ^fa ;"
            fault "turns ^tickfar ;"
            fault "turns 1 or2^far ;"
            fault "turns 1 ^andy 2 ;"
            fault "turns ^nott 1 ;"
            fault "turns ^z ;"
            fault "turns ^a ;"
            fault "^burns far ; finds 5 ; waits 0 ;"
            fault "turns ^car ;"
            fault "turns ^fat ;"
            fault "turns ^fir ;"
            """);
        each("NUMBERS (as many digits as stand there, 4 at most)", """
            text "turns 9999 ; finds 0000 ; waits 0 ;" = 1
            fault "turns ^10000 ; finds 5 ; waits 0 ;"
            fault "turns ^00000 ; finds 5 ; waits 0 ;"
            fault "turns ^99999999999999999999 ; finds 5 ; waits 0 ;"
            fault "turns far ; finds ^12345 ; waits 0 ;"
            fault "turns far ; finds 5 ; waits ^12345"
            fault "turns far ; finds 1234 ^5 ; waits 0 ;"
            """);
        each("a NUMBER that is too long, where none can stand", """
            fault "turns 1 ^12345 ;"
            fault "^12345"
            """);
        each("a WORD that is neither KEY nor NAME, where none can stand", """
            fault "turns 1 ^word ;"
            fault "^Turns far ;"
            fault "turns ^FAR ;"
            """);
        each("what is no TOKEN is none wherever it stands: behind what may be told once more", """
            fault "turns ( ^word 1 ) ;"
            fault "turns (^word 1) ;"
            fault "turns - ^word 1 ;"
            fault "turns -^word 1 ;"
            fault "turns not ^word 1 ;"
            fault "turns ( ^12345 1 ) ;"
            fault "turns (^12345 1) ;"
            fault "turns - ^12345 1 ;"
            fault "turns not ^12345 1 ;"
            fault "turns ( ^! 1 ) ;"
            fault "turns (^! 1) ;"
            fault "turns -^! 1 ;"
            fault "turns not ^! 1 ;"
            """);
    }

    /** Of what no TOKEN begins with, also of what can't stand there: the FAULT is the byte itself. */
    private static void everyByteBehindATextThatStands() {
        for (int b = 0; b < 256; b++) {
            RUNS.of("blanks (32, 10) may stand between: byte " + b + " behind a TEXT");
            RUNS.feed(FIRST + (char) b);
            RUNS.due(b == 32 || b == 10 ? 1 : -100 - FIRST.length(), "text");
        }
    }

    private static void everyByteAheadOfAText() {
        for (int b = 0; b < 256; b++) {
            RUNS.of("FAULT: also of a byte that begins none: byte " + b + " ahead of a TEXT");
            RUNS.feed((char) b + FIRST);
            RUNS.due(b == 32 || b == 10 ? 1 : -100, "text");
        }
    }

    private static int placeOfFault(int b) {
        if (b >= 'a' && b <= 'z') {
            return 0;
        }
        // "turns7far": far can't stand behind a ONE; "turns(far ;": the ; can't.
        return b >= '0' && b <= '9' ? 6 : b == '(' ? 10 : 5;
    }

    private static void everyByteBetweenTwoTokens() {
        for (int b = 0; b < 256; b++) {
            boolean stands = b == 32 || b == 10 || b == '-';
            RUNS.of("SIGNS ( ) ; + - * < = ; byte " + b + " between turns and far");
            RUNS.feed("turns" + (char) b + "far ; finds 5 ; waits 0 ;");
            RUNS.due(stands ? 1 : -100 - placeOfFault(b), "text");
            RUNS.due(stands ? 2 : 1, "count", 1);
            RUNS.due(0, "count", 2);
        }
    }

    private static void theParts() {
        each("TEXT: turns E ; finds E ; waits E ;", """
            fault "^far ; finds 5 ; waits 0 ;"
            fault "^finds 5 ; turns far ; waits 0 ;"
            fault "^waits 0 ; turns far ; finds 5 ;"
            fault "^; turns far ; finds 5 ; waits 0 ;"
            fault "turns ^; finds 5 ; waits 0 ;"
            fault "turns far ^finds 5 ; waits 0 ;"
            fault "turns far ; ^; finds 5 ; waits 0 ;"
            fault "turns far ; ^turns far ;"
            fault "turns far ; ^waits 0 ; finds 5 ;"
            fault "turns far ; finds ^; waits 0 ;"
            fault "turns far ; finds 5 ^waits 0 ;"
            fault "turns far ; finds 5 ; ^finds 5 ;"
            fault "turns far ; finds 5 ; ^0 ;"
            fault "turns far ; finds 5 ; waits ^; ;"
            fault "turns far ; finds 5 ; waits 0 ; ^; "
            fault "turns far ; finds 5 ; waits 0 ; ^turns far ; finds 5 ; waits 0 ;"
            fault "turns far ; finds 5 ; waits 0 ; ^0"
            """);
        each("turns, finds, waits, or, and, not are KEYS: none is a ONE", """
            fault "turns ^turns ;"
            fault "turns ^finds ;"
            fault "turns ^waits ;"
            fault "turns ^or ;"
            fault "turns ^and ;"
            fault "turns 1 ^not ;"
            fault "turns 1 + ^not 1 ;"
            fault "turns 1 * ^not 1 ;"
            fault "turns 1 < ^not 1 ;"
            fault "turns - ^not 1 ;"
            """);
    }

    private static void sums() {
        each("E: AND { or AND }; AND: NOT { and NOT }", """
            fault "turns 1 or ^or 1 ;"
            fault "turns 1 or ^; ;"
            fault "turns 1 and ^and 1 ;"
            fault "turns 1 and ^; ;"
            fault "turns 1 and ^or 1 ;"
            fault "turns not ^; ;"
            fault "turns not ^and 1 ;"
            text "turns 1 or 1 and 1 or not 1 and not not 1 ; finds 5 ; waits 0 ;" = 1
            """);
        each("SUM, perhaps < or = and a SUM: one of them at most", """
            fault "turns 1 < 2 ^< 3 ;"
            fault "turns 1 < 2 ^= 3 ;"
            fault "turns 1 = 2 ^< 3 ;"
            fault "turns 1 = 2 ^= 3 ;"
            fault "turns 1 < ^= 3 ;"
            fault "turns 1 = ^; ;"
            fault "turns ^< 1 ;"
            fault "turns ^= 1 ;"
            text "turns (1 < 2) < 3 ; finds not 1 = 2 ; waits 1 + 1 = 2 and 3 < 4 ;" = 1
            """);
        each("SUM: TERM { + or - TERM }; TERM: ONE { * ONE }; ONE: a NUMBER, a NAME, - ONE, ( E )", """
            fault "turns 1 + ^+ 1 ;"
            fault "turns 1 - ^; ;"
            fault "turns 1 * ^* 1 ;"
            fault "turns 1 * ^+ 1 ;"
            fault "turns ^+ 1 ;"
            fault "turns ^* 1 ;"
            fault "turns 1 ^1 ;"
            fault "turns far ^far ;"
            fault "turns 1 ^(1) ;"
            fault "turns (1) ^(1) ;"
            fault "turns (^) ;"
            fault "turns ^) ;"
            fault "turns 1 ^) ;"
            fault "turns (1)^) ;"
            fault "turns (1 ^; ;"
            fault "turns ((1) ^; ;"
            fault "turns - ^; ;"
            text "turns 1 - - 1 * - far + (1 or 2) ; finds -(-1) ; waits (((0))) ;" = 1
            """);
    }

    private static void endsTooEarly() {
        each("FAULT: the text's size, if it ends too early", """
            text "" = -100
            text " " = -101
            text "\\n \\n" = -103
            text "turns" = -105
            text "turns " = -106
            text "turns far" = -109
            text "turns far ;" = -111
            text "turns far ; finds" = -117
            text "turns far ; finds 5" = -119
            text "turns far ; finds 5 ;" = -121
            text "turns far ; finds 5 ; waits" = -127
            text "turns far ; finds 5 ; waits 0" = -129
            text "turns far ; finds 5 ; waits 0  " = -131
            text "turns far or" = -112
            text "turns far and" = -113
            text "turns far +" = -111
            text "turns far *" = -111
            text "turns far <" = -111
            text "turns not" = -109
            text "turns -" = -107
            text "turns (" = -107
            text "turns (far" = -110
            text "turns (far)" = -111
            """);
        each("a text cut within a WORD: that WORD is none", """
            fault "^t"
            fault "^turn"
            fault "turns ^f"
            fault "turns far ; ^find"
            """);
        RUNS.of("7: THE TAPE is empty then (by a FAULT, too)", """
            fault "turns ^;"
            count(2) = 0; count(1) = 1; feed(116) = 1
            new
            text "turns far ; finds 5 ; waits 0 ;" = 1
            count(2) = 0; count(1) = 2; feed(116) = 1
            """);
        RUNS.of("7: THE TAPE is empty then: of what stood there ahead nothing is read", """
            fault "turns ^12345"
            text "turns 1" = -107
            fault "turns ^farther"
            text "turns far" = -109
            fault "turns far ; finds 5 ; waits 0 ; ^0"
            text "turns far ; finds 5 ; waits 0 ;" = 1
            """);
        RUNS.of("ends too early: a NUMBER, a WORD in the last of 160 bytes");
        RUNS.feed("turns" + blanks(MOST_BYTES - 9) + "1234");
        RUNS.due(-100 - MOST_BYTES, "text");
        RUNS.feed("turns" + blanks(MOST_BYTES - 8) + "far");
        RUNS.due(-100 - MOST_BYTES, "text");
        RUNS.of("7: by a FAULT, too: what was read of it ahead is in no TEXT", "sight(0, 0, 0) = 0");
        for (int i = 0; i < 2; i++) {
            RUNS.feed("turns 1" + "+1".repeat(70) + "+;");
            RUNS.due(-100 - 148, "text");
        }
        RUNS.feed("turns 7;finds 1;waits 0;");
        RUNS.due(1, "text");
        RUNS.due(0, "force", 1);
        RUNS.due(7, "night", 10);
    }

    private static void openParentheses() {
        each("a ( while 5 of these are open (a ( till its ) )", """
            text "turns (((((1))))) ; finds 5 ; waits 0 ;" = 1
            fault "turns (((((^(1)))))) ; finds 5 ; waits 0 ;"
            fault "turns far ; finds (((((^(1)))))) ; waits 0 ;"
            text "turns (((((1))))) + (((((1))))) * (1) ; finds (((((1))))) ; waits (1) ;" = 1
            text "turns ((((1)+(1)))+(((1)))) ; finds 5 ; waits 0 ;" = 1
            text "turns ((((( 1 )))) + (((( 1 ))))) ; finds 5 ; waits 0 ;" = 1
            fault "turns ((((( 1 )))) + ((((^( 1 ))))) ;"
            """);
    }

    private static void openNots() {
        each("a not while 5 of these are open (till what it belongs to ends)", """
            text "turns not not not not not 1 ; finds 5 ; waits 0 ;" = 1
            fault "turns not not not not not ^not 1 ; finds 5 ; waits 0 ;"
            text "turns not not not not not 1 and not not not not not 1 or not 1 ; finds not 1 ; waits 0 ;" = 1
            fault "turns not not not not not 1 and not not not not not ^not 1 ;"
            """);
        each("what a not belongs to is all of SUM < SUM", """
            fault "turns not not not not not 1 < ^(2) ;"
            fault "turns not not not not not 1 < ^- 2 ;"
            fault "turns not not not not not 1 + ^(2) ;"
            fault "turns not not not not not 1 * ^- 2 ;"
            text "turns not not not not 1 < (2) + (3) ; finds 5 ; waits 0 ;" = 1
            text "turns not not not not not 1 < 2 and (2) ; finds 5 ; waits 0 ;" = 1
            text "turns not not not not not 1 = 2 or - 2 ; finds 5 ; waits 0 ;" = 1
            """);
    }

    private static void openMinuses() {
        each("a - ahead of a ONE while 5 of these are open (till what it belongs to ends)", """
            text "turns - - - - - 1 ; finds 5 ; waits 0 ;" = 1
            fault "turns - - - - - ^- 1 ; finds 5 ; waits 0 ;"
            text "turns -----1-----1 ; finds 5 ; waits 0 ;" = 1
            text "turns -----1 - -----1 * -----1 < -----1 ; finds -1 ; waits 0 ;" = 1
            fault "turns -----1------^-1 ;"
            """);
        each("a - between two TERMS is none of these", """
            text "turns (((((1 - 1 - 1 - 1 - 1 - 1 - 1))))) ; finds 5 ; waits 0 ;" = 1
            fault "turns (((((1 - ^- 1))))) ; finds 5 ; waits 0 ;"
            """);
    }

    private static void openOnesMixed() {
        each("a ( , a not, a - ahead of a ONE: 5 of these together", """
            text "turns not(-(-1)) ; finds 5 ; waits 0 ;" = 1
            fault "turns not(-(-^-1)) ; finds 5 ; waits 0 ;"
            fault "turns not(-(-^(1))) ; finds 5 ; waits 0 ;"
            fault "turns not(-((^not 1))) ; finds 5 ; waits 0 ;"
            """);
        each("a - till its ONE ends, which may be ( E )", """
            fault "turns -(-(-^(1))) ;"
            fault "turns -(-(-^-1)) ;"
            text "turns -(-(1)) + -(-(-1)) ; finds 5 ; waits 0 ;" = 1
            """);
        RUNS.of("a FAULT ends the counting: the next TEXT begins with none open", """
            fault "turns (((((^(1)))))) ;"
            fault "turns ((((1 ^;"
            text "turns (((((1))))) ; finds 5 ; waits 0 ;" = 1
            """);
    }

    /** What an E tells as turns: of one SIGHT that is FOUND in one TICK by one who needn't turn far. */
    private static void dueE(String sentence, String... pairs) {
        for (String pair : pairs) {
            int colon = pair.indexOf(':');
            RUNS.of(sentence + ": " + pair, "sight(0, 0, 0) = 0",
                "rule \"turns " + pair.substring(0, colon).trim() + " ; finds 1 ; waits 0 ;\"",
                "night(10) = " + pair.substring(colon + 1).trim());
        }
    }

    private static void whatEIs() {
        dueE("An E is an int (32 bits, wrapping)", "4096 * 4096 * 128 < 0 : 1", "4096 * 4096 * 128 - 1 < 0 : 0",
            "4096 * 4096 * 128 - 1 + 1 < 0 : 1", "0 - 4096 * 4096 * 128 < 0 : 1", "-(4096 * 4096 * 128) < 0 : 1",
            "4096 * 4096 * 256 = 0 : 1", "4096 * 4096 * 256 + 7 : 7", "9999 * 9999 * 9999 < 0 : 1",
            "4096 * 4096 * 128 : 0", "4096 * 4096 * 128 - 1 : 50");
        dueE("of or, and, not, <, = 1 or 0 (what is not 0 is true)", "7 or 0 : 1", "0 or 9 : 1", "0 or 0 : 0", "-1 or 0 : 1",
            "7 and 9 : 1", "7 and 0 : 0", "0 and 7 : 0", "-1 and -1 : 1", "not 0 : 1", "not 7 : 0", "not -1 : 0",
            "not not 7 : 1", "3 < 4 : 1", "4 < 4 : 0", "5 < 4 : 0", "-1 < 0 : 1", "4 = 4 : 1", "4 = 5 : 0", "4 = 3 : 0",
            "4096 * 4096 * 128 and 1 : 1", "2 and 1 : 1");
        dueE("E, AND, NOT, SUM, TERM, ONE: what belongs together", "1 or 0 and 0 : 1", "(1 or 0) and 0 : 0", "0 and 0 or 1 : 1",
            "not 0 and 0 : 0", "not (0 and 0) : 1", "not 3 < 2 : 1", "(not 3) < 2 : 1", "not 2 < 3 : 0", "1 + 1 < 3 : 1",
            "2 + 3 * 4 : 14", "2 * 3 + 4 : 10", "10 - 3 - 2 : 5", "10 - (3 - 2) : 9", "5 - 2 + 1 : 4", "-3 + 10 : 7",
            "-(3 - 10) : 7", "--4 : 4", "3 - -4 : 7", "10 + 2 * -3 : 4", "0 or 0 or 5 : 1", "1 and 2 and 3 : 1");
        dueE("a NUMBER", "0 : 0", "0000 : 0", "0009 : 9", "0042 : 42", "9999 - 9950 : 49", "9 : 9", "10 : 10");
    }

    private static void names() {
        RUNS.of("tick: the TICK (of turns as he turns, of others as he has turned)", """
            sight(0, 0, 0) = 0; set(6, 0, 9) = 0
            rule "turns tick ; finds tick ; waits 0 ;"
            night(10) = 35
            set(10, 0, 20) = 0
            rule "turns 3 ; finds 1 ; waits tick < 20 ;"
            night(0) = 2
            rule "turns 3 ; finds 1 ; waits tick = 12 ;"
            night(0) = 2
            rule "turns tick = 9 ; finds 1 ; waits 0 ;"
            set(10, 0, 0) = 20; night(10) = 10
            """);
        RUNS.of("tick of the last TICK, and of the one behind it", """
            sight(0, 0, 0) = 0; sight(0, 0, 0) = 1; set(6, 0, 199) = 0
            rule "turns tick - 199 ; finds tick - 198 ; waits 0 ;"
            night(10) = 199; night(11) = NONE; night(3) = 200
            """);
        RUNS.of("far: FAR from where he was (0 .. 9), of turns, finds and waits", """
            sight(0, 0, 99) = 0; set(12, 0, 99) = 10; set(10, 0, 30) = 0
            rule "turns 0 ; finds far ; waits 0 ;"
            night(10) = 38
            rule "turns 30 ; finds 1 ; waits far ;"
            set(10, 0, 40) = 30; night(0) = 9
            rule "turns far ; finds 1 ; waits 0 ;"
            set(10, 0, 0) = 40; night(10) = 9; set(5, 0, 99) = 0; night(10) = 0
            """);
        RUNS.of("moon: MOON; number: NUMBER; height: y of its SPOT (0 .. 9 each)", """
            sight(0, 9, 9) = 0
            rule "turns moon ; finds 1 ; waits 0 ;"
            night(10) = 0; set(0, 0, 9) = 0; night(10) = 9
            rule "turns number ; finds 1 ; waits 0 ;"
            night(10) = 9; set(8, 0, 0) = 9; night(10) = 0
            rule "turns height ; finds 1 ; waits 0 ;"
            night(10) = 0; set(9, 0, 90) = 9; night(10) = 9; set(9, 0, 10) = 90; night(10) = 1
            """);
        RUNS.of("order: which one of the order it is (from 0)", """
            sight(0, 0, 0) = 0; sight(0, 0, 0) = 1; sight(0, 0, 0) = 2; sight(0, 0, 0) = 3
            sight(0, 0, 0) = 4; sight(0, 0, 0) = 5; sight(0, 0, 0) = 6
            rule "turns order ; finds 1 ; waits 0 ;"
            night(10) = 0; night(11) = 2; night(12) = 5; night(13) = 9; night(14) = 14; night(15) = 20; night(16) = 27
            row 0 0 = 6 5 4 3 2 1 0
            order(0, 16) = 0; order(0, 15) = 2; order(0, 10) = 27
            """);
    }

    private static void boundsOfTheThree() {
        dueE("turns: TICKS to turn there (0 .. 50, else the bound)", "0 : 0", "0 - 1 : 0", "-9999 : 0", "1 : 1", "49 : 49",
            "50 : 50", "51 : 50", "9999 : 50");
        RUNS.of("finds: TICKS to find it (1 .. 99, else the bound): below", """
            sight(0, 0, 0) = 0
            rule "turns 0 ; finds 1 ; waits 0 ;"
            night(10) = 0
            rule "turns 0 ; finds 0 ; waits 0 ;"
            night(10) = 0
            rule "turns 0 ; finds -9999 ; waits 0 ;"
            night(10) = 0
            rule "turns 0 ; finds 2 ; waits 0 ;"
            night(10) = 1
            """);
        RUNS.of("finds: TICKS to find it (1 .. 99, else the bound): above", """
            sight(0, 0, 0) = 0
            rule "turns 0 ; finds 98 ; waits 0 ;"
            night(10) = 97
            rule "turns 0 ; finds 99 ; waits 0 ;"
            night(10) = 98
            rule "turns 0 ; finds 100 ; waits 0 ;"
            night(10) = 98
            rule "turns 0 ; finds 9999 ; waits 0 ;"
            night(10) = 98
            """);
        RUNS.of("finds: the bound ahead of the KIND: a BRIGHT of 0 is half of 1, a FAINT of 0 is 1 and MOON", """
            sight(1, 0, 0) = 0; sight(4, 1, 0) = 1; set(0, 0, 3) = 0
            rule "turns 0 ; finds -7 ; waits 0 ;"
            night(10) = 3; night(11) = 4
            """);
        RUNS.of("waits: what each TICK of waiting costs (0 .. 9, else the bound)", """
            sight(0, 0, 0) = 0; set(10, 0, 1) = 0
            rule "turns 0 ; finds 1 ; waits 0 ;"
            night(0) = 10
            rule "turns 0 ; finds 1 ; waits -1 ;"
            night(0) = 10
            rule "turns 0 ; finds 1 ; waits 9 ;"
            night(0) = 1
            rule "turns 0 ; finds 1 ; waits 10 ;"
            night(0) = 1
            rule "turns 0 ; finds 1 ; waits 8 ;"
            night(0) = 2
            """);
        RUNS.of("TEXT 0, at first THE RULE, is: turns far ; finds 5 ; waits 0 ;", """
            count(3) = 0; sight(0, 0, 99) = 0; night(10) = 13; night(3) = 14
            set(10, 0, 100) = 0; night(10) = 104; night(0) = 10; night(4) = 91
            """);
    }

    private static void sixTexts() {
        String five = """
            text "turns 1 ; finds 1 ; waits 0 ;" = 1
            text "turns 2 ; finds 1 ; waits 0 ;" = 2
            fault "turns ^;"
            text "turns 3 ; finds 1 ; waits 0 ;" = 3
            text "turns 4 ; finds 1 ; waits 0 ;" = 4
            text "turns 5 ; finds 1 ; waits 0 ;" = 5
            count(1) = 6
            """;
        RUNS.of("There are 6 TEXTS at most, TEXT 0 with them; 7: FULL: no TEXT more has room (THE TAPE stays)", five, """
            feed(116) = 1; feed(59) = 2; text() = FULL; count(2) = 2; feed(59) = 3; text() = FULL
            count(1) = 6; count(2) = 3
            """);
        RUNS.of("7: FULL (ahead of all): of an empty THE TAPE, too", five, "text() = FULL; count(1) = 6");
        RUNS.of("7: FULL (ahead of all): a text that would stand stays, too", five, "feed(116) = 1");
        RUNS.feed("urns 6 ; finds 1 ; waits 0 ;");
        RUNS.due(AHundredSights.FULL, "text");
        RUNS.due(29, "count", 2);
        RUNS.of("each TEXT stays as it was read", five, """
            sight(0, 0, 9) = 0
            night(10) = 13; force(1) = 0; night(10) = 1; force(2) = 1; night(10) = 2; force(3) = 2; night(10) = 3
            force(4) = 3; night(10) = 4; force(5) = 4; night(10) = 5; force(0) = 5; night(10) = 13
            force(6) = BAD
            """);
        RUNS.of("7: a TEXT: its number: it isn't THE RULE yet", """
            sight(0, 0, 9) = 0
            text "turns 1 ; finds 1 ; waits 0 ;" = 1
            count(3) = 0; night(10) = 13
            """);
    }

    private static void force() {
        RUNS.of("8: A TEXT is THE RULE: which was. BAD", """
            force(-1) = BAD; force(1) = BAD; force(6) = BAD; force(2147483647) = BAD; force(-2147483648) = BAD
            force(0) = 0; count(3) = 0
            text "turns 1 ; finds 1 ; waits 0 ;" = 1
            force(2) = BAD; force(1) = 0; force(1) = 1; count(3) = 1; force(2) = BAD; force(-1) = BAD; count(3) = 1
            force(0) = 1; count(3) = 0
            """);
    }
}
