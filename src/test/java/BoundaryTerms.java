/** The document's Terms: findings, the minute, the people, AHEAD and the sheets. */
final class BoundaryTerms {
    /**
     * Nothing is as at first: eight people, an image of another foyer, a text, three sheets with numbers and one
     * MISSING. One of 0 and 1 stays below 5, the other above 6.
     */
    private static final String RICH = """
        person(GUEST, 1)
        minutes(3)
        image()
        score(0, 4)
        score(1, 1)
        score(2, 2)
        score(3, 3)
        score(4, 0)
        score(5, 4)
        bell(0, 6)
        bell(1, 16)
        bell(2, 27)
        person(ENEMY, 9)
        set(1, 3, 10)
        person(SINGER, 6)
        person(LATE, 8)
        person(DIVA, 3)
        person(RIVAL, 10)
        person(GUEST, 2)
        set(6, 3, 9999)
        person(RIVAL, 0)
        set(7, 2, 3)
        minutes(2)
        feed "score 5 7"
        27 * feed(0x20202020, 4)
        sheet(0, 8, 3)
        write(0, 2, 9)
        sheet(1, 16, 2)
        write(1, 0, 300)
        sheet(2, 64, 1)
        write(2, 0, -5)
        """;

    private BoundaryTerms() {
    }

    static void test(Sentences t) {
        t.promise(Sentences.TERMS);
        findings(t);
        theMinute(t);
        thePeople(t);
        aMinuteGoes(t);
        aheadAndSheets(t);
        t.leadIn("Ahead of the calls `score`, `bell`, `now`, `who` the interface says: ---- the score.");
        t.leadIn("Ahead of the calls `person`, `of`, `set`, `turn`, `as` the interface says: ---- people.");
        t.leadIn("Ahead of the calls `minutes`, `on`, `harmony`, `comes`, `plays`, `meet` the interface says:"
            + " ---- minutes.");
        t.leadIn("Ahead of the calls `begin`, `kind`, `quick`, `compose`, `deceive`, `worst` the interface says:"
            + " ---- what is best.");
        t.leadIn("Ahead of the calls `feed`, `wipe`, `interval` the interface says: ---- the text.");
        t.leadIn("Ahead of the calls `sheet`, `write`, `copy`, `lays`, `book`, `read` the interface says:"
            + " ---- sheets.");
        t.leadIn("Ahead of the calls `image`, `undo`, `tear`, `count`, `status` the interface says: ---- images.");
    }

    private static void findings(Sentences t) {
        t.sentence("FINDINGS are answers below -1000000000: -1000000001 BEYOND, -1000000002 FULL, -1000000003 KIND,"
            + " -1000000004 NONE, -1000000005 STATE, -1000000006 MISSING, -1000000007 SIZE (in longs, too).", """
            who(12) = -1000000001
            8 * person(GUEST, 0)
            person(GUEST, 0) = -1000000002
            as(0, DIVA) = -1000000003
            undo() = -1000000004
            lays(0) = -1000000006
            sheet(0, 8, -1) = -1000000007
            write(4, 0, 0) = -1000000001
            write(0, 0, 0) = -1000000006
            new
            499 * minutes(200)
            minutes(200) = -1000000005
            """);
        t.sentence("Each act tells its findings in the order in which they are asked;", """
            # BEYOND, then what comes behind it
            worst(301) = BEYOND
            worst(300) = NONE
            8 * person(GUEST, 0)
            person(6, 0) = BEYOND
            person(GUEST, 12) = BEYOND
            person(GUEST, 11) = FULL
            as(8, DIVA) = BEYOND
            as(0, 6) = BEYOND
            as(0, DIVA) = KIND
            30 * feed(0x20202020, 4)
            feed(0, 5) = BEYOND
            feed(0, 4) = FULL
            sheet(4, 8, -1) = BEYOND
            sheet(0, 7, -1) = BEYOND
            sheet(0, 8, -1) = SIZE
            sheet(0, 8, 41) = BEYOND
            write(4, 99, 0) = BEYOND
            write(0, 99, 0) = MISSING
            sheet(0, 8, 2)
            write(0, 99, 0) = BEYOND
            sheet(1, 16, 2)
            copy(4, -1, 2, -1, -1) = BEYOND
            copy(2, -1, 4, -1, -1) = BEYOND
            copy(2, -1, 0, -1, -1) = MISSING
            copy(0, -1, 2, -1, -1) = MISSING
            copy(0, -1, 1, -1, -1) = KIND
            copy(0, -1, 0, -1, -1) = BEYOND
            book(4, 99) = BEYOND
            book(2, 99) = MISSING
            book(0, 99) = BEYOND
            read(4, 99) = BEYOND
            read(2, 99) = MISSING
            read(0, 99) = BEYOND
            new
            499 * minutes(200)
            minutes(201) = BEYOND
            minutes(200) = STATE
            """);
        // Script looks for changes after every finding of every run; here there is most that could change.
        t.sentence("one that answers a finding changes nothing but status().", RICH + """
            score(6, 0) = BEYOND
            score(0, 12) = BEYOND
            bell(3, 0) = BEYOND
            bell(0, 48) = BEYOND
            now(6) = BEYOND
            who(12) = BEYOND
            person(6, 0) = BEYOND
            person(GUEST, 12) = BEYOND
            person(GUEST, 0) = FULL
            of(8, 0) = BEYOND
            of(0, 9) = BEYOND
            set(8, 1, 0) = BEYOND
            set(7, 1, 12) = BEYOND
            set(7, 2, 5) = BEYOND
            set(7, 3, 10000) = BEYOND
            set(7, 4, 10000) = BEYOND
            set(7, 5, 1) = BEYOND
            turn(8, GUEST) = BEYOND
            turn(7, 6) = BEYOND
            as(8, GUEST) = BEYOND
            as(7, SINGER) = KIND
            minutes(0) = BEYOND
            minutes(201) = BEYOND
            on(0, 301, 0) = BEYOND
            harmony(301) = BEYOND
            comes(0, 12) = BEYOND
            comes(0, 11) = NONE
            plays(8) = BEYOND
            plays(6) = NONE
            meet(0, 0) = BEYOND
            meet(0, 1) = NONE
            begin(0, 101) = BEYOND
            kind(0, 101) = BEYOND
            quick(0, 101, 0) = BEYOND
            quick(0, 100, 9999) = NONE
            compose(0, 101) = BEYOND
            deceive(0, 61) = BEYOND
            worst(301) = BEYOND
            count(4) = BEYOND
            status(7) = BEYOND
            """, RICH + """
            feed(0x31, 5) = BEYOND
            feed(0x31, 4) = FULL
            sheet(4, 8, 1) = BEYOND
            sheet(0, 7, 1) = BEYOND
            sheet(0, 16, -1) = SIZE
            sheet(0, 16, 41) = BEYOND
            sheet(0, 0, -1) = SIZE
            sheet(0, 0, 41) = BEYOND
            write(4, 0, 1) = BEYOND
            write(3, 0, 1) = MISSING
            write(0, 3, 1) = BEYOND
            copy(0, 0, 4, 0, 1) = BEYOND
            copy(0, 0, 3, 0, 1) = MISSING
            copy(0, 0, 1, 0, 1) = KIND
            copy(0, 0, 0, 1, 3) = BEYOND
            lays(4) = BEYOND
            lays(3) = MISSING
            book(4, 0) = BEYOND
            book(3, 0) = MISSING
            book(0, 8) = BEYOND
            read(4, 0) = BEYOND
            read(3, 0) = MISSING
            read(0, 8) = BEYOND
            tear()
            undo() = NONE
            """, """
            worst(0) = NONE
            """, """
            person(GUEST, 0)
            person(RIVAL, 0)
            499 * minutes(200)
            score(5, 9)
            set(0, 1, 3)
            set(1, 3, 77)
            set(1, 4, 88)
            minutes(200) = STATE
            now(0) = 99800
            of(0, 1) = 3
            of(1, 3) = 77
            of(1, 4) = 88
            score(5, 9) = 9
            """);
    }

    private static void theMinute(Sentences t) {
        t.sentence("Quotients are cut.", """
            minutes(7)
            now(1) = 0
            minutes(8)
            now(1) = 1
            """);
        t.sentence("Sets are told by bits.", """
            8 * person(GUEST, 3)
            who(3) = 255
            6 * person(GUEST, 3) = FULL
            set(0, 1, 4)
            who(4) = 1
            set(7, 1, 4)
            who(4) = 129
            who(3) = 126
            who(5) = 0
            """);
        t.sentence("1. MINUTE: 0 at first (99999 at most).", """
            now(0) = 0
            499 * minutes(200)
            minutes(199)
            now(0) = 99999
            minutes(1) = STATE
            now(0) = 99999
            """);
        t.sentence("QUARTERS 0 to 5 of 8 minutes each: that of a MINUTE is its quotient by 8, of that the rest by 6.",
            """
            now(1) = 0
            minutes(7)
            now(1) = 0
            minutes(1)
            now(1) = 1
            minutes(31)
            now(1) = 4
            minutes(1)
            now(1) = 5
            minutes(7)
            now(1) = 5
            # behind the last quarter the first one comes again
            minutes(1)
            now(1) = 0
            minutes(47)
            now(1) = 5
            minutes(1)
            now(1) = 0
            """);
        t.sentence("SCORE: the SPOT (0 to 11) of each QUARTER (of quarter i at first the rest of 5 times i by 12).", """
            score(0, 0) = 0
            score(1, 0) = 5
            score(2, 11) = 10
            score(3, 11) = 3
            score(4, 12) = BEYOND
            score(4, -1) = BEYOND
            score(4, 0) = 8
            score(5, 0) = 1
            score(6, 0) = BEYOND
            """);
        t.sentence("BELLS 0 to 2, each rings in MINUTES whose rest by 48 is its own (10, 20 and 30 at first).", """
            now(3) = -1
            minutes(9)
            now(3) = -1
            minutes(1)
            now(3) = 0
            minutes(1)
            now(3) = -1
            minutes(9)
            now(3) = 1
            minutes(10)
            now(3) = 2
            minutes(28)
            now(3) = 0
            new
            bell(0, 0) = 10
            bell(1, 47) = 20
            now(3) = 0
            minutes(47)
            now(3) = 1
            minutes(1)
            now(3) = 0
            minutes(47)
            now(3) = 1
            minutes(1)
            now(3) = 0
            bell(2, 48) = BEYOND
            bell(2, 0) = 30
            bell(3, 0) = BEYOND
            """);
    }

    private static void thePeople(Sentences t) {
        t.sentence("PEOPLE 0, 1, .. (at most 8)", """
            of(0, 0) = BEYOND
            person(GUEST, 0) = 0
            person(GUEST, 0) = 1
            person(GUEST, 0) = 2
            person(GUEST, 0) = 3
            person(GUEST, 0) = 4
            person(GUEST, 0) = 5
            person(GUEST, 0) = 6
            of(7, 0) = BEYOND
            person(GUEST, 0) = 7
            of(7, 0) = 0
            person(GUEST, 0) = FULL
            of(8, 0) = BEYOND
            """);
        t.sentence("are of KINDS: 0 GUEST, 1 ENEMY under GUEST, 2 SINGER under GUEST, 3 LATE under GUEST,"
            + " 4 DIVA under SINGER, 5 RIVAL under ENEMY;", everyKindAsEvery(
            "=.....",
            "==....",
            "=.=...",
            "=..=..",
            "=.=.=.",
            "==...="));
        t.sentence("each AT a SPOT,", """
            person(GUEST, 0)
            person(GUEST, 11)
            person(GUEST, 12) = BEYOND
            person(GUEST, -1) = BEYOND
            of(0, 1) = 0
            of(1, 1) = 11
            """);
        t.sentence("QUICK (1 to 4 spots a minute; 1 at first),", """
            person(GUEST, 11)
            of(0, 2) = 1
            minutes(1)
            of(0, 1) = 10
            set(0, 2, 0) = BEYOND
            set(0, 2, 5) = BEYOND
            set(0, 2, 4) = 1
            minutes(1)
            of(0, 1) = 6
            """);
        t.sentence("PLAYED (minutes in time; 0 at first, held to 9999),", """
            person(GUEST, 0)
            of(0, 3) = 0
            minutes(1) = 1
            of(0, 3) = 1
            set(0, 3, 9998)
            minutes(1) = 1
            of(0, 3) = 9999
            minutes(1) = 1
            of(0, 3) = 9999
            on(0, 300, 1) = 9999
            """);
        t.sentence("SPOILT (0 at first, held to 9999).", """
            # a rival spoils 4
            person(RIVAL, 0)
            of(0, 4) = 0
            set(0, 4, 9994)
            minutes(1)
            of(0, 4) = 9998
            minutes(1)
            of(0, 4) = 9999
            minutes(1)
            of(0, 4) = 9999
            on(0, 2, 2) = 9999
            set(0, 4, 9995)
            minutes(1)
            of(0, 4) = 9999
            """);
    }

    /** Row by row the kinds of people, column by column the kind as which they are asked: = if they are. */
    private static String everyKindAsEvery(String... rows) {
        StringBuilder run = new StringBuilder();
        for (int own = 0; own < rows.length; own++) {
            run.append("person(").append(own).append(", 0)\n");
            run.append("set(").append(own).append(", 3, ").append(70 + own).append(")\n");
        }
        for (int own = 0; own < rows.length; own++) {
            for (int kind = 0; kind < rows.length; kind++) {
                String due = rows[own].charAt(kind) == '=' ? Integer.toString(70 + own) : "KIND";
                run.append("as(").append(own).append(", ").append(kind).append(") = ").append(due).append('\n');
            }
        }
        return run.toString();
    }

    private static void aMinuteGoes(Sentences t) {
        t.sentence("A MINUTE goes: PEOPLE by numbers: each walks towards where it is DUE (by all as it is then).", """
            # the enemy walks first and finds the guest before it
            person(ENEMY, 5)
            person(GUEST, 6)
            minutes(1) = 0
            of(0, 1) = 5
            of(1, 1) = 5
            # the guest walks first: the enemy's way is free then
            new
            person(GUEST, 6)
            person(ENEMY, 5)
            minutes(1) = 0
            of(0, 1) = 5
            of(1, 1) = 6
            # the guest walks into the enemy's way
            new
            person(GUEST, 7)
            person(ENEMY, 5)
            minutes(1) = 0
            of(0, 1) = 6
            of(1, 1) = 5
            """);
        t.sentence("Then by numbers: each one that is AT the SPOT where it was DUE when it walked: PLAYED is 1 more;"
            + " others: SPOILT is what it SPOILS more.", """
            # one that is late is due elsewhere as soon as it has walked
            person(LATE, 3)
            person(GUEST, 1)
            person(GUEST, 2)
            minutes(1) = 3
            now(4) = 2
            of(0, 3) = 1
            of(0, 4) = 0
            of(1, 3) = 1
            of(1, 4) = 0
            of(2, 3) = 0
            of(2, 4) = 1
            # with PLAYED 9 it is deceived, although it has PLAYED 10 when the minute ends
            new
            score(0, 5)
            bell(0, 0)
            person(GUEST, 1)
            set(0, 3, 9)
            minutes(1) = 1
            of(0, 1) = 0
            of(0, 3) = 10
            """);
        t.sentence("MINUTE is 1 more.", """
            minutes(1)
            now(0) = 1
            minutes(200)
            now(0) = 201
            """);
        t.sentence("HARMONY: PLAYED of all together, less SPOILT of all together.", """
            harmony(0) = 0
            8 * person(GUEST, 0)
            set(0, 3, 20)
            set(7, 3, 5)
            set(3, 4, 40)
            set(7, 4, 2)
            harmony(0) = -17
            """);
    }

    private static void aheadAndSheets(Sentences t) {
        t.sentence("2. AHEAD: n MINUTES go on with all as it is; nothing changes.", """
            person(ENEMY, 2)
            person(GUEST, 4)
            set(1, 2, 2)
            bell(0, 1)
            image()
            # the guest goes to 2 and then to 0; the enemy goes to 3, and the bell would send it to 2 where the guest is
            on(0, 1, 0) = 3
            on(1, 1, 0) = 2
            on(0, 2, 0) = 3
            on(1, 2, 0) = 0
            harmony(300)
            worst(300)
            now(0) = 0
            of(0, 1) = 2
            of(1, 1) = 4
            of(0, 4) = 0
            of(1, 3) = 0
            """,
            // Script looks for changes after every act that only asks.
            RICH + """
            on(0, 300, 0)
            on(3, 100, 1)
            on(7, 50, 2)
            harmony(0)
            harmony(300)
            comes(2, 3)
            plays(1)
            meet(2, 4)
            begin(5, 100)
            kind(5, 100)
            quick(5, 100, 1)
            compose(2, 100)
            deceive(0, 60)
            worst(300)
            read(0, 7)
            now(3)
            now(4)
            now(5)
            who(4)
            of(5, 5)
            of(5, 6)
            of(5, 7)
            of(5, 8)
            as(5, ENEMY)
            count(3)
            status(-1)
            """,
            // Behind the last minute all goes on: 99999 is the last of quarter 1, and quarter 2 tells 10.
            """
            person(GUEST, 5)
            499 * minutes(200)
            minutes(199)
            set(0, 1, 9)
            on(0, 1, 0) = 8
            on(0, 2, 0) = 9
            on(0, 3, 0) = 10
            now(0) = 99999
            """);
        t.sentence("3. SHEETS 0 to 3 are rows of at most 40 numbers of 8, 16 or 64 bits, or MISSING (at first).", """
            write(0, 0, 1) = MISSING
            write(3, 0, 1) = MISSING
            write(-1, 0, 1) = BEYOND
            write(4, 0, 1) = BEYOND
            sheet(0, 8, 40) = 40
            sheet(1, 16, 40) = 40
            sheet(2, 64, 40) = 40
            sheet(3, 32, 40) = BEYOND
            sheet(0, 8, 41) = BEYOND
            write(3, 0, 1) = MISSING
            write(0, 39, 1) = 0
            write(0, 40, 1) = BEYOND
            """);
    }
}
