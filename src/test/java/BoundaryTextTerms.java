/** The document's Terms: THE TEXT of an INTERVAL and its FAULTS. */
final class BoundaryTextTerms {
    private BoundaryTextTerms() {
    }

    static void test(Sentences t) {
        t.promise(Sentences.TERMS);
        tokens(t);
        items(t);
        faults(t);
    }

    /** A run that reads each text on its own: "text" and the answer that is due, by turns. */
    static String texts(Object... textsAndAnswers) {
        StringBuilder run = new StringBuilder();
        for (int i = 0; i + 1 < textsAndAnswers.length; i += 2) {
            String text = (String) textsAndAnswers[i];
            run.append("new\n");
            for (int at = 0; at < text.length(); at++) {
                run.append("feed(").append((int) text.charAt(at)).append(", 1)\n");
            }
            run.append("interval() = ").append(textsAndAnswers[i + 1]).append("\ncount(1) = 0\nstatus(-1) = 0\n");
        }
        return run.toString();
    }

    private static void tokens(Sentences t) {
        t.sentence("THE TEXT of an INTERVAL, from THE TAPE (bytes, at most 120).", """
            29 * feed(0x20202020, 4)
            feed(0x206c6174, 3) = 119
            feed(0x6520, 2) = FULL
            feed(0x65, 1) = 120
            feed(0x31, 1) = FULL
            interval() = -121
            # 120 bytes that are a text
            28 * feed(0x20202020, 4)
            feed(0x2020206c, 4) = 116
            feed(0x61746537, 4) = 120
            interval() = 1
            of(0, 0) = 3
            of(0, 1) = 7
            """);
        t.sentence("TOKENS, each as long as can be:", texts(
            "guest1quick2", 1,
            "guest1quick2;late3", 2,
            "guestquick1", -1,
            "guest 1quickquick 1", -8,
            "guest 1 2", -9,
            "guest 12", -7,
            "score 01", -9,
            "score 0 1", 1));
        t.sentence("WORDS (letters a to z),", texts(
            "`", -1, "{", -1, "@", -1, "[", -1, "a", -1, "z", -1,
            "Guest 1", -1, "guesT 1", -1, "guest 1 Quick 1", -9,
            "guest` 1", -6, "guest{ 1", -6, "guesta 1", -1, "guestz 1", -1, "late 1 zquick 2", -8));
        t.sentence("NUMBERS (digits, 999 at most),", texts(
            "guest /", -7, "guest :", -7, "guest 1/", -8, "guest 1:", -8,
            "guest 09", 1, "guest 011", 1, "guest 012", -7,
            "guest 999", -7, "guest 1000", -7, "guest 1001", -7,
            // Numbers that would be small ones again if they were cut to 32 or 64 bits, or to fewer digits.
            "guest 4294967296", -7, "guest 4294967299", -7, "guest 18446744073709551617", -7,
            "guest 10000000000000000000000000000000000000000000001", -7,
            "guest 0000000000000000000000000000000000000000000001", 1));
        t.sentence("SIGN ; ;", texts(
            "guest 1;guest 1", 2, "guest 1 ; guest 1", 2, "guest 1;;guest 1", -9,
            "guest 1:guest 1", -8, "guest 1,guest 1", -8));
        t.sentence("blanks may stand between.", texts(
            "   guest    1   quick   2   ;   late   2   ", 2,
            "guest\t1", -6, "guest 1\n", -8, "guest\r1", -6, "guest\u00001", -6, "guest\u00a01", -6, "guest\u001f1", -6,
            "gu est 1", -1, "guest 1 1", -9));
    }

    private static void items(Sentences t) {
        t.sentence("TEXT: ITEM { ; ITEM }.", texts(
            "", -1, "   ", -4, ";", -1, "; guest 1", -1,
            "guest 1", 1, "guest 1;", -9, "guest 1; ", -10, "guest 1;late 1", 2, "guest 1 late 1", -9,
            "score0 0;score0 0;score0 0;score0 0;score0 0;score0 0;score0 0;score0 0;score0 0;score0 0;score0 0", 11));
        t.sentence("ITEM: the name of a KIND (guest enemy singer late diva rival), a NUMBER (a SPOT),"
            + " perhaps quick and a NUMBER (1 to 4): one more;", """
            feed "guest 0;enemy 11;singer 3 quick 1;late 4 quick 4;diva 5;rival 6"
            interval() = 6
            count(0) = 6
            of(0, 0) = 0
            of(0, 1) = 0
            of(0, 2) = 1
            of(1, 0) = 1
            of(1, 1) = 11
            of(2, 0) = 2
            of(2, 1) = 3
            of(2, 2) = 1
            of(3, 0) = 3
            of(3, 1) = 4
            of(3, 2) = 4
            of(4, 0) = 4
            of(4, 1) = 5
            of(4, 2) = 1
            of(5, 0) = 5
            of(5, 1) = 6
            of(5, 3) = 0
            of(5, 4) = 0
            """, texts(
            "guest 11", 1, "guest 12", -7, "guest", -6, "guest late", -7,
            "late 1 quick 1", 1, "late 1 quick 4", 1, "late 1 quick 0", -14, "late 1 quick 5", -14,
            "late 1 quick", -13, "late 1 quick;", -13, "late 1 quick 1 quick 1", -16, "late 1 quick 1 1", -16,
            "quick 1", -1, "late quick 1", -6));
        t.sentence("score, a NUMBER (a QUARTER), a NUMBER (a SPOT);", """
            feed "score 0 11;score 5 0"
            interval() = 2
            score(0, 0) = 11
            score(5, 0) = 0
            score(1, 0) = 5
            """, texts(
            "score 0 0", 1, "score 5 11", 1, "score 6 0", -7, "score 0 12", -9, "score", -6, "score 0", -8,
            "score ;", -7, "score 0;", -8, "score 0 0 0", -11, "score 0 0 quick 1", -11, "scor 0 0", -1,
            "scores 0 0", -1));
        t.sentence("bell, a NUMBER (0 to 2: which one), a NUMBER (0 to 47).", """
            feed "bell 0 47;bell 2 0"
            interval() = 2
            bell(0, 0) = 47
            bell(1, 0) = 20
            bell(2, 0) = 0
            """, texts(
            "bell 0 0", 1, "bell 2 47", 1, "bell 3 0", -6, "bell 0 48", -8, "bell", -5, "bell 0", -7,
            "bell ;", -6, "bell 0;", -7, "bell 0 0 0", -10, "bell 0 0 quick 1", -10, "bel 0 0", -1, "bells 0 0", -1));
    }

    private static void faults(Sentences t) {
        t.sentence("FAULT: the place (from 0) of the first byte of the first TOKEN that can't stand there", texts(
            "12", -1, " 12", -2, "guest 12;guest 13", -7, "guest 1;guest 13;#", -15, "guest # 99", -7));
        t.sentence("(a NUMBER that may not be,", texts(
            "guest 12", -7, "guest 1 2", -9, "3", -1, "guest 1;3", -9, "guest 1 quick 5", -15));
        t.sentence("another WORD,", texts(
            "pearl 1", -1, "quest 1", -1, "fate 1", -1, "viva 1", -1, "bella 0 0", -1, "tell 0 0", -1,
            "guest 1 guick 1", -9, "guest 1 quicj 1", -9, "scorf 0 0", -1, "guest late 1", -7, "guest 1 pearl", -9,
            "guest 1 quick quick", -15, "score bell", -7, "bell 1 late", -8, "guest 1;quick 1", -9));
        t.sentence("a byte that begins no TOKEN,", texts(
            "#", -1, "guest #", -7, "guest 1 quick #", -15, "guest 1#", -8, "guest 1;#", -9, "guest -1", -7,
            "score #", -7, "score 1 #", -9, "score 1 1#", -10, "bell\u00e9 1 1", -5, "bell 1 \u00ff", -8));
        t.sentence("the name of a KIND for a 9th: its own),", """
            feed "late0;late0;late0;late0;late0;late0;late0;late0; guest"
            interval() = -50
            count(0) = 0
            feed "late0;late0;late0;late0;late0;late0;late0;late0"
            interval() = 8
            feed "score 0 1;rival 99"
            interval() = -11
            feed "diva"
            interval() = -1
            feed "score 0 1;bell 0 1"
            interval() = 2
            status(-1) = 0
            """);
        t.sentence("or how many bytes there are if it ends too early.", texts(
            "", -1, " ", -2, "guest", -6, "guest ", -7, "guest 1 quick", -14, "guest 1 quick  ", -16, "guest 1;", -9,
            "score", -6, "score 1", -8, "bell", -5, "bell 1 ", -8));
    }
}
