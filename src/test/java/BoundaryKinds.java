/** The document's Terms: where one of a kind is DUE, what it HEARS, how it WALKS and what it SPOILS. */
final class BoundaryKinds {
    private BoundaryKinds() {
    }

    static void test(Sentences t) {
        t.promise(Sentences.TERMS);
        due(t);
        hears(t);
        walks(t);
        spoils(t);
    }

    private static void due(Sentences t) {
        t.leadIn("DUE (the SPOT where it is due in a MINUTE, the SCORE telling s, q being the QUARTER):");
        t.sentence("GUEST: s.", """
            person(GUEST, 6)
            of(0, 5) = 0
            score(0, 11)
            of(0, 5) = 11
            minutes(8)
            of(0, 5) = 5
            """);
        t.sentence("ENEMY: 11 less s.", """
            person(ENEMY, 6)
            of(0, 5) = 11
            score(0, 11)
            of(0, 5) = 0
            score(0, 4)
            of(0, 5) = 7
            """);
        t.sentence("SINGER: 11, if q is odd; else as GUEST.", """
            person(SINGER, 6)
            of(0, 5) = 0
            minutes(7)
            of(0, 5) = 0
            minutes(1)
            of(0, 5) = 11
            minutes(7)
            of(0, 5) = 11
            minutes(1)
            of(0, 5) = 10
            minutes(8)
            of(0, 5) = 11
            minutes(8)
            of(0, 5) = 8
            minutes(8)
            of(0, 5) = 11
            minutes(7)
            of(0, 5) = 11
            minutes(1)
            of(0, 5) = 0
            """);
        t.sentence("LATE: where it is AT, and 1 (behind 11: 0).", """
            person(LATE, 0)
            of(0, 5) = 1
            set(0, 1, 10)
            of(0, 5) = 11
            set(0, 1, 11)
            of(0, 5) = 0
            """);
        t.sentence("DIVA: as SINGER, but 5 in the last minute of a QUARTER (the rest of MINUTE by 8 is 7).", """
            person(DIVA, 6)
            of(0, 5) = 0
            minutes(6)
            of(0, 5) = 0
            minutes(1)
            of(0, 5) = 5
            minutes(1)
            of(0, 5) = 11
            minutes(6)
            of(0, 5) = 11
            minutes(1)
            of(0, 5) = 5
            minutes(1)
            of(0, 5) = 10
            minutes(31)
            of(0, 5) = 5
            minutes(1)
            of(0, 5) = 0
            """);
        t.sentence("RIVAL: as ENEMY, less 1 (0 at least).", """
            person(RIVAL, 6)
            of(0, 5) = 10
            score(0, 9)
            of(0, 5) = 1
            score(0, 10)
            of(0, 5) = 0
            score(0, 11)
            of(0, 5) = 0
            """);
    }

    private static void hears(Sentences t) {
        t.sentence("HEARS (whether a BELL that rings deceives it: it is DUE AT 0 in that MINUTE instead):", """
            score(0, 9)
            bell(1, 1)
            person(GUEST, 5)
            of(0, 6) = 0
            of(0, 5) = 9
            minutes(1)
            of(0, 6) = 1
            of(0, 5) = 0
            minutes(1)
            of(0, 1) = 5
            of(0, 6) = 0
            of(0, 5) = 9
            """);
        t.sentence("GUEST: if PLAYED is below 10.", hearsWithBell(0, "GUEST", 1, 1, 0, 0));
        t.sentence("ENEMY: as GUEST.", hearsWithBell(0, "ENEMY", 1, 1, 0, 0), hearsWithBell(2, "ENEMY", 1, 1, 0, 0));
        t.sentence("SINGER: yes.", hearsWithBell(0, "SINGER", 1, 1, 1, 1), hearsWithBell(2, "SINGER", 1, 1, 1, 1));
        t.sentence("LATE: no.", hearsWithBell(0, "LATE", 0, 0, 0, 0), """
            bell(0, 0)
            person(LATE, 4)
            of(0, 5) = 5
            """);
        t.sentence("DIVA: no.", hearsWithBell(0, "DIVA", 0, 0, 0, 0), """
            bell(0, 0)
            score(0, 7)
            person(DIVA, 4)
            of(0, 5) = 7
            """);
        t.sentence("RIVAL: as ENEMY, but not when BELL 2 rings.", hearsWithBell(0, "RIVAL", 1, 1, 0, 0),
            hearsWithBell(1, "RIVAL", 1, 1, 0, 0), hearsWithBell(2, "RIVAL", 0, 0, 0, 0), """
            # several ring: BELL 2 is among them
            bell(0, 0)
            bell(1, 0)
            person(RIVAL, 4)
            of(0, 6) = 1
            of(0, 5) = 0
            bell(2, 0)
            of(0, 6) = 0
            of(0, 5) = 10
            """);
    }

    /** Whether one HEARS a bell with PLAYED 0, 9, 10 and 9999. */
    private static String hearsWithBell(int which, String kind, int... due) {
        int[] played = {0, 9, 10, 9999};
        StringBuilder run = new StringBuilder();
        run.append("bell(").append(which).append(", 0)\nperson(").append(kind).append(", 4)\n");
        for (int i = 0; i < played.length; i++) {
            run.append("set(0, 3, ").append(played[i]).append(")\nof(0, 6) = ").append(due[i]).append('\n');
        }
        return run.toString();
    }

    private static void walks(Sentences t) {
        t.sentence("WALKS (spots towards where it is DUE in a MINUTE, no farther than that):", """
            # down to 0 and up to 11, by 4 of 5, 4 of 4 and 4 of 3 spots
            person(GUEST, 5)
            person(GUEST, 4)
            person(GUEST, 3)
            person(GUEST, 0)
            set(0, 2, 4)
            set(1, 2, 4)
            set(2, 2, 4)
            set(3, 2, 4)
            minutes(1) = 14
            of(0, 1) = 1
            of(1, 1) = 0
            of(2, 1) = 0
            of(3, 1) = 0
            score(0, 11)
            set(0, 1, 6)
            set(1, 1, 7)
            set(2, 1, 8)
            set(3, 1, 11)
            minutes(1) = 14
            of(0, 1) = 10
            of(1, 1) = 11
            of(2, 1) = 11
            of(3, 1) = 11
            # a late one that is quick: no farther than a spot on
            new
            person(LATE, 2)
            set(0, 2, 4)
            minutes(1) = 1
            of(0, 1) = 3
            """);
        t.sentence("GUEST: QUICK.", walksWhenQuick("GUEST", 1, 4));
        t.sentence("ENEMY: as GUEST, but 0, if another one is AT the next SPOT on its way"
            + " (there is none, if it is where it is DUE).", walksWhenQuick("ENEMY", 1, 4), """
            # its way goes up to 11: only who is at 6 bars it
            person(ENEMY, 5)
            set(0, 2, 4)
            person(SINGER, 6)
            of(0, 7) = 0
            set(1, 1, 7)
            of(0, 7) = 4
            set(1, 1, 5)
            of(0, 7) = 4
            set(1, 1, 4)
            of(0, 7) = 4
            # down to 0: only who is at 4
            score(0, 11)
            of(0, 7) = 0
            set(1, 1, 6)
            of(0, 7) = 4
            set(1, 1, 3)
            of(0, 7) = 4
            """, """
            # where it is DUE no neighbour bars it, at either end and between
            person(ENEMY, 11)
            person(GUEST, 10)
            set(0, 2, 3)
            of(0, 7) = 3
            score(0, 11)
            set(0, 1, 0)
            set(1, 1, 1)
            of(0, 7) = 3
            score(0, 5)
            set(0, 1, 6)
            person(GUEST, 5)
            set(1, 1, 7)
            of(0, 7) = 3
            # barred it stays, and is not in time
            score(0, 4)
            of(0, 7) = 0
            minutes(1)
            of(0, 1) = 6
            of(0, 4) = 2
            """, """
            # deceived it has another way
            person(ENEMY, 5)
            person(SINGER, 4)
            of(0, 7) = 1
            bell(0, 0)
            of(0, 7) = 0
            """);
        t.sentence("SINGER: 1.", walksWhenQuick("SINGER", 1, 1));
        t.sentence("LATE: as GUEST, twice that.", walksWhenQuick("LATE", 2, 8), """
            # behind 11 it goes back to 0, and does not come there
            person(LATE, 11)
            minutes(1) = 0
            of(0, 1) = 9
            set(0, 1, 11)
            set(0, 2, 4)
            minutes(1) = 0
            of(0, 1) = 3
            """);
        t.sentence("DIVA: as SINGER, and QUICK.", walksWhenQuick("DIVA", 2, 5));
        t.sentence("RIVAL: as ENEMY.", walksWhenQuick("RIVAL", 1, 4), """
            # its way goes up to 10
            person(RIVAL, 9)
            person(GUEST, 10)
            of(0, 7) = 0
            set(0, 1, 10)
            set(1, 1, 11)
            of(0, 7) = 1
            set(1, 1, 9)
            of(0, 7) = 1
            set(0, 1, 11)
            set(1, 1, 10)
            of(0, 7) = 0
            """);
    }

    private static String walksWhenQuick(String kind, int dueWith1, int dueWith4) {
        return "person(" + kind + ", 5)\nof(0, 7) = " + dueWith1 + "\nset(0, 2, 4)\nof(0, 7) = " + dueWith4 + "\n";
    }

    private static void spoils(Sentences t) {
        t.leadIn("SPOILS (how much it is SPOILT, not being where it is DUE):");
        t.sentence("GUEST: 1.", spoiltInAMinute("GUEST", 5, 1));
        t.sentence("ENEMY: as GUEST, and 1.", spoiltInAMinute("ENEMY", 5, 2));
        t.sentence("SINGER: 0.", spoiltInAMinute("SINGER", 5, 0));
        t.sentence("LATE: 5.", spoiltInAMinute("LATE", 11, 5));
        t.sentence("DIVA: as SINGER, and 3.", spoiltInAMinute("DIVA", 5, 3));
        t.sentence("RIVAL: as ENEMY, twice that.", spoiltInAMinute("RIVAL", 5, 4));
        // The one thing in which a kind is only as the kind above: all else is told of each.
        t.sentence("(Others as the KIND above.)", """
            person(ENEMY, 5)
            bell(0, 0)
            of(0, 6) = 1
            set(0, 3, 10)
            of(0, 6) = 0
            """);
    }

    private static String spoiltInAMinute(String kind, int spot, int due) {
        return "person(" + kind + ", " + spot + ")\nof(0, 8) = " + due + "\nminutes(1) = 0\nof(0, 4) = " + due
            + "\nof(0, 3) = 0\n";
    }
}
