/** Promises 17 to 22: what is best. */
final class BoundaryBest {
    private static final String ALWAYS_AT_5 = """
        score(0, 5)
        score(2, 5)
        score(3, 5)
        score(4, 5)
        score(5, 5)
        """;

    private BoundaryBest() {
    }

    static void test(Sentences t) {
        begin(t);
        kind(t);
        quick(t);
        compose(t);
        deceive(t);
        worst(t);
    }

    /** A call with one that is not there, and with n too small and too large: %s stands for each. */
    private static String beyond(String call, int mostN) {
        String line = call + " = BEYOND\n";
        StringBuilder run = new StringBuilder(String.format(line, "0", "1")).append("person(GUEST, 3)\n");
        for (String person : new String[] {"-1", "1", "MIN", "MAX"}) {
            run.append(String.format(line, person, "1"));
        }
        for (String n : new String[] {"0", "-1", Integer.toString(mostN + 1), "MIN", "MAX"}) {
            run.append(String.format(line, "0", n));
        }
        return run.append("7 * person(GUEST, 0)\n").append(String.format(line, "8", "1")).toString();
    }

    private static void begin(Sentences t) {
        t.promise(17);
        t.sentence("The SPOT AT which one had best be now, so that it has PLAYED most n MINUTES (1 to 100) AHEAD;", """
            # who stands at 11 bars the enemy's way from 10: it must be at 11, the last spot
            person(ENEMY, 4)
            person(GUEST, 11)
            begin(0, 1) = 11
            of(0, 1) = 4
            # a late one plays longest from 0, the first spot
            turn(0, LATE)
            begin(0, 11) = 0
            """, ALWAYS_AT_5 + """
            # 100 are played from 4 to 6, 99 from 3 and 7
            person(GUEST, 11)
            begin(0, 1) = 4
            begin(0, 100) = 4
            set(0, 2, 2)
            begin(0, 100) = 3
            """, """
            # a diva walks 2
            score(0, 11)
            person(DIVA, 0)
            begin(0, 1) = 9
            # a singer is due at 11 in minute 8: the farther up it begins, the more it plays; there is no spot behind 11
            new
            minutes(6)
            person(SINGER, 0)
            begin(0, 10) = 11
            """);
        t.sentence("of several the least.", """
            score(0, 6)
            person(GUEST, 11)
            begin(0, 1) = 5
            set(0, 2, 4)
            begin(0, 1) = 2
            # held: all are the same
            set(0, 3, 9999)
            begin(0, 1) = 0
            begin(0, 100) = 0
            """);
        t.sentence("BEYOND.", beyond("begin(%s, %s)", 100));
    }

    private static void kind(Sentences t) {
        t.promise(18);
        t.sentence("The KIND as one of which one has PLAYED most n MINUTES (1 to 100) AHEAD;", """
            # from 11 only an enemy and a rival come where they are due
            person(RIVAL, 11)
            kind(0, 1) = 1
            of(0, 0) = 5
            # bell 2 deceives the others, and the late one is behind 11
            bell(2, 0)
            kind(0, 1) = 5
            set(0, 1, 8)
            kind(0, 1) = 3
            """, ALWAYS_AT_5 + """
            # 100 are played by a guest
            person(LATE, 5)
            kind(0, 100) = 0
            """);
        t.sentence("of several the least.", """
            person(RIVAL, 9)
            # late and rival
            kind(0, 1) = 3
            set(0, 1, 0)
            kind(0, 1) = 0
            set(0, 1, 8)
            set(0, 3, 9999)
            kind(0, 1) = 0
            kind(0, 100) = 0
            """);
        t.sentence("BEYOND.", beyond("kind(%s, %s)", 100));
    }

    private static void quick(Sentences t) {
        t.promise(19);
        t.sentence("The least QUICK (1 to 4) with which one has PLAYED v (0 to 9999) or more"
            + " n MINUTES (1 to 100) AHEAD.", """
            person(GUEST, 4)
            set(0, 2, 3)
            quick(0, 1, 0) = 1
            quick(0, 1, 1) = 4
            quick(0, 4, 1) = 1
            quick(0, 4, 2) = 2
            quick(0, 4, 3) = 2
            quick(0, 4, 4) = 4
            of(0, 2) = 3
            set(0, 1, 3)
            quick(0, 1, 1) = 3
            set(0, 3, 9999)
            quick(0, 1, 9999) = 1
            set(0, 3, 9998)
            quick(0, 1, 9999) = 3
            set(0, 3, 9999)
            set(0, 1, 11)
            quick(0, 1, 9999) = 1
            """, ALWAYS_AT_5 + """
            # bell 0 deceives all that have not PLAYED 10 by minute 10: with QUICK 4 alone it has
            person(GUEST, 9)
            quick(0, 100, 96) = 1
            quick(0, 100, 97) = 2
            quick(0, 100, 98) = 2
            quick(0, 100, 99) = 4
            quick(0, 100, 100) = 4
            """);
        t.sentence("BEYOND.", beyond("quick(%s, %s, 0)", 100), """
            person(GUEST, 4)
            quick(0, 1, -1) = BEYOND
            quick(0, 1, 10000) = BEYOND
            quick(0, 1, MIN) = BEYOND
            quick(0, 1, MAX) = BEYOND
            """);
        t.sentence("NONE.", """
            person(GUEST, 4)
            quick(0, 4, 5) = NONE
            quick(0, 100, 9999) = NONE
            set(0, 1, 5)
            quick(0, 1, 1) = NONE
            """, ALWAYS_AT_5 + """
            person(GUEST, 9)
            quick(0, 100, 101) = NONE
            """);
    }

    private static void compose(Sentences t) {
        t.promise(20);
        t.sentence("How a QUARTER had best be written now (its SPOT), so that HARMONY is most"
            + " n MINUTES (1 to 100) AHEAD;", """
            person(GUEST, 7)
            person(GUEST, 9)
            compose(0, 1) = 8
            now(2) = 0
            # the singer bars the enemy's way from 0: it must be due at 0, with the last spot
            new
            person(ENEMY, 0)
            person(SINGER, 1)
            compose(0, 1) = 11
            # HARMONY far below 0 and far above
            new
            person(GUEST, 7)
            set(0, 4, 9990)
            compose(0, 1) = 6
            set(0, 4, 0)
            set(0, 3, 9990)
            compose(0, 1) = 6
            """, """
            # due at 11 in quarter 1 and at 1 in quarter 2, it is there the sooner the lower it stood in quarter 0
            score(1, 0)
            bell(0, 40)
            bell(1, 40)
            bell(2, 40)
            person(ENEMY, 0)
            compose(0, 23) = 11
            """, ALWAYS_AT_5 + """
            person(GUEST, 5)
            compose(0, 100) = 4
            compose(5, 100) = 4
            """);
        t.sentence("of several the least.", """
            # nobody there
            compose(0, 1) = 0
            compose(5, 100) = 0
            # quarter 1 begins in the 9th minute
            person(GUEST, 7)
            compose(1, 8) = 0
            compose(0, 1) = 6
            """);
        t.sentence("BEYOND.", """
            compose(-1, 1) = BEYOND
            compose(6, 1) = BEYOND
            compose(MIN, 1) = BEYOND
            compose(MAX, 1) = BEYOND
            compose(0, 0) = BEYOND
            compose(0, -1) = BEYOND
            compose(0, 101) = BEYOND
            compose(0, MIN) = BEYOND
            compose(0, MAX) = BEYOND
            """);
    }

    private static void deceive(Sentences t) {
        t.promise(21);
        t.sentence("At which minute (0 to 47) a BELL (0 to 2) had best ring, so that HARMONY is least"
            + " n MINUTES (1 to 60) AHEAD;", ALWAYS_AT_5 + """
            person(GUEST, 5)
            deceive(0, 1) = 0
            deceive(2, 1) = 0
            minutes(1)
            deceive(0, 1) = 1
            bell(0, 10) = 10
            now(0) = 1
            """, ALWAYS_AT_5 + """
            minutes(47)
            person(GUEST, 5)
            deceive(0, 1) = 47
            deceive(1, 1) = 47
            deceive(2, 1) = 47
            # a rival is due at 5 with 5, and bell 2 does not deceive it
            turn(0, RIVAL)
            deceive(2, 1) = 0
            deceive(1, 1) = 47
            """, ALWAYS_AT_5 + """
            # in 0 or 1 it would ring behind 47, when none hears it
            minutes(2)
            person(GUEST, 5)
            deceive(0, 60) = 2
            # HARMONY far above 0 and far below
            set(0, 3, 9)
            person(GUEST, 5)
            set(1, 3, 9000)
            deceive(0, 1) = 2
            set(1, 4, 9990)
            set(1, 3, 0)
            deceive(0, 1) = 2
            """, """
            # whenever bell 2 rings the barred enemy is in time, and the rival in minute 0: but ring it must
            score(0, 1)
            score(1, 1)
            score(2, 1)
            score(3, 1)
            score(4, 1)
            bell(0, 0)
            bell(1, 0)
            person(ENEMY, 0)
            person(GUEST, 1)
            set(1, 3, 10)
            person(RIVAL, 9)
            deceive(2, 48) = 1
            """);
        t.sentence("of several the least.", """
            # nobody there
            deceive(0, 1) = 0
            deceive(2, 60) = 0
            score(0, 5)
            person(GUEST, 5)
            minutes(2)
            # in 2, 3 or 4
            deceive(0, 3) = 2
            set(0, 3, 10)
            deceive(0, 60) = 0
            """);
        t.sentence("BEYOND.", """
            deceive(-1, 1) = BEYOND
            deceive(3, 1) = BEYOND
            deceive(MIN, 1) = BEYOND
            deceive(MAX, 1) = BEYOND
            deceive(0, 0) = BEYOND
            deceive(0, -1) = BEYOND
            deceive(0, 61) = BEYOND
            deceive(0, MIN) = BEYOND
            deceive(0, MAX) = BEYOND
            """);
    }

    private static void worst(Sentences t) {
        t.promise(22);
        t.sentence("Who is most SPOILT n MINUTES (0 to 300) AHEAD;", """
            person(GUEST, 9)
            person(ENEMY, 0)
            person(RIVAL, 0)
            set(0, 4, 2)
            worst(0) = 0
            worst(1) = 2
            new
            8 * person(GUEST, 0)
            set(7, 4, 1)
            worst(0) = 7
            """, ALWAYS_AT_5 + """
            # the late one is SPOILT by 5 in minutes 11, 14, .. 299
            person(GUEST, 5)
            set(0, 3, 10)
            set(0, 4, 480)
            person(LATE, 0)
            worst(0) = 0
            worst(299) = 0
            worst(300) = 1
            now(0) = 0
            """);
        t.sentence("of several the least.", """
            8 * person(GUEST, 0)
            worst(0) = 0
            set(7, 4, 5)
            set(3, 4, 5)
            worst(0) = 3
            # held: the same at last
            set(3, 4, 9999)
            set(1, 4, 9999)
            worst(300) = 1
            """);
        t.sentence("BEYOND.", """
            worst(-1) = BEYOND
            worst(301) = BEYOND
            worst(MIN) = BEYOND
            worst(MAX) = BEYOND
            person(GUEST, 0)
            worst(-1) = BEYOND
            worst(301) = BEYOND
            """);
        t.sentence("NONE: nobody is there.", """
            worst(0) = NONE
            worst(300) = NONE
            image()
            person(GUEST, 0)
            worst(0) = 0
            undo()
            worst(0) = NONE
            """);
    }
}
