/** Promises 11 to 16: minutes. */
final class BoundaryMinutes {
    /** The first comes to spot 8 in 319 minutes. */
    private static final String SLOW_TO_COME = """
        score(0, 11)
        score(1, 4)
        score(2, 11)
        score(3, 2)
        score(4, 11)
        score(5, 11)
        bell(0, 12)
        bell(1, 30)
        bell(2, 31)
        person(RIVAL, 5)
        person(RIVAL, 0)
        person(ENEMY, 10)
        set(2, 2, 2)
        person(SINGER, 4)
        """;
    /** The first is in time in 324 minutes. */
    private static final String SLOW_TO_PLAY = """
        score(0, 0)
        score(1, 11)
        score(2, 0)
        score(3, 6)
        score(4, 0)
        score(5, 11)
        bell(0, 40)
        bell(1, 45)
        bell(2, 36)
        person(ENEMY, 4)
        set(0, 3, 2)
        person(ENEMY, 9)
        set(1, 2, 3)
        set(1, 3, 6)
        person(GUEST, 7)
        set(2, 2, 3)
        set(2, 3, 4)
        person(LATE, 0)
        set(3, 2, 3)
        set(3, 3, 5)
        person(DIVA, 7)
        """;
    /** The first two are at the same spot in 322 minutes. */
    private static final String SLOW_TO_MEET = """
        score(0, 0)
        score(1, 11)
        score(2, 8)
        score(3, 0)
        score(4, 2)
        score(5, 0)
        bell(0, 23)
        bell(1, 33)
        bell(2, 9)
        person(ENEMY, 7)
        set(0, 2, 2)
        person(RIVAL, 11)
        person(RIVAL, 8)
        set(2, 2, 2)
        person(LATE, 10)
        set(3, 2, 2)
        """;
    private static final String ALWAYS_AT_0 = """
        score(1, 0)
        score(2, 0)
        score(3, 0)
        score(4, 0)
        score(5, 0)
        """;

    private BoundaryMinutes() {
    }

    static void test(Sentences t) {
        minutes(t);
        on(t);
        harmony(t);
        comes(t);
        plays(t);
        meet(t);
    }

    private static void minutes(Sentences t) {
        t.promise(11);
        t.sentence("n MINUTES go (1 to 200): who is where it was DUE in the last of them, as a set.", """
            minutes(1) = 0
            now(0) = 1
            minutes(200) = 0
            now(0) = 201
            # minute 7 is the last that goes: then it is due at 5, but was at 0
            new
            person(GUEST, 0)
            person(GUEST, 9)
            person(LATE, 0)
            minutes(8) = 5
            now(4) = 0
            new
            8 * person(GUEST, 0)
            minutes(1) = 255
            # only the last of them counts: minute 8 is the first at 5
            minutes(8) = 0
            of(0, 3) = 8
            """);
        t.sentence("BEYOND.", """
            minutes(0) = BEYOND
            minutes(-1) = BEYOND
            minutes(201) = BEYOND
            minutes(MIN) = BEYOND
            minutes(MAX) = BEYOND
            now(0) = 0
            """);
        t.sentence("STATE: MINUTE would be above 99999.", """
            499 * minutes(200)
            minutes(200) = STATE
            now(0) = 99800
            minutes(198)
            minutes(2) = STATE
            minutes(1)
            now(0) = 99999
            minutes(1) = STATE
            minutes(200) = STATE
            minutes(201) = BEYOND
            minutes(0) = BEYOND
            status(4) = 4
            """);
    }

    private static void on(Sentences t) {
        t.promise(12);
        t.sentence("SPOT (what 0),", """
            person(GUEST, 3)
            on(0, 0, 0) = 3
            on(0, 1, 0) = 2
            on(0, 3, 0) = 0
            on(0, 8, 0) = 0
            on(0, 9, 0) = 1
            """);
        t.sentence("PLAYED (1),", """
            person(GUEST, 3)
            set(0, 3, 4)
            on(0, 0, 1) = 4
            on(0, 2, 1) = 4
            on(0, 3, 1) = 5
            on(0, 8, 1) = 10
            set(0, 3, 9997)
            on(0, 4, 1) = 9999
            on(0, 5, 1) = 9999
            """);
        t.sentence("SPOILT (2) of one n MINUTES (0 to 300) AHEAD.", """
            person(GUEST, 3)
            on(0, 0, 2) = 0
            on(0, 2, 2) = 2
            on(0, 8, 2) = 2
            """, ALWAYS_AT_0 + """
            person(GUEST, 0)
            person(RIVAL, 10)
            on(0, 299, 1) = 299
            on(0, 300, 1) = 300
            on(0, 301, 1) = BEYOND
            on(0, 0, 1) = 0
            on(0, -1, 1) = BEYOND
            # bell 0 deceives none that has PLAYED 10
            on(1, 300, 2) = 0
            """);
        t.sentence("BEYOND.", """
            on(0, 0, 0) = BEYOND
            person(GUEST, 3)
            on(-1, 0, 0) = BEYOND
            on(1, 0, 0) = BEYOND
            on(MIN, 0, 0) = BEYOND
            on(MAX, 0, 0) = BEYOND
            on(0, -1, 0) = BEYOND
            on(0, 301, 0) = BEYOND
            on(0, MIN, 0) = BEYOND
            on(0, MAX, 0) = BEYOND
            on(0, 0, -1) = BEYOND
            on(0, 0, 3) = BEYOND
            on(0, 0, MIN) = BEYOND
            on(0, 0, MAX) = BEYOND
            7 * person(GUEST, 0)
            on(8, 0, 0) = BEYOND
            """);
    }

    private static void harmony(Sentences t) {
        t.promise(13);
        t.sentence("HARMONY n MINUTES (0 to 300) AHEAD.", """
            # nobody there
            harmony(0) = 0
            harmony(300) = 0
            """, ALWAYS_AT_0 + """
            person(GUEST, 2)
            set(0, 4, 5)
            harmony(0) = -5
            harmony(1) = -6
            harmony(2) = -5
            harmony(299) = 292
            harmony(300) = 293
            now(0) = 0
            """, BoundaryPeople.ofEight("set(%d, 4, 9999)") + "harmony(0) = -79992\n");
        t.sentence("BEYOND.", """
            harmony(-1) = BEYOND
            harmony(301) = BEYOND
            harmony(MIN) = BEYOND
            harmony(MAX) = BEYOND
            """);
    }

    private static void comes(Sentences t) {
        t.promise(14);
        t.sentence("In how many MINUTES (0 to 300) one is AT a SPOT first.", """
            person(GUEST, 3)
            comes(0, 3) = 0
            comes(0, 2) = 1
            comes(0, 0) = 3
            # at 1 it is in minute 2, and again in minute 9
            comes(0, 1) = 2
            """, SLOW_TO_COME + """
            minutes(19)
            comes(0, 8) = 300
            # it is as the minutes go
            minutes(200)
            minutes(99)
            comes(0, 8) = 1
            minutes(1)
            comes(0, 8) = 0
            of(0, 1) = 8
            """);
        t.sentence("BEYOND.", """
            comes(0, 0) = BEYOND
            person(GUEST, 3)
            comes(-1, 0) = BEYOND
            comes(1, 0) = BEYOND
            comes(MIN, 0) = BEYOND
            comes(MAX, 0) = BEYOND
            comes(0, -1) = BEYOND
            comes(0, 12) = BEYOND
            comes(0, MIN) = BEYOND
            comes(0, MAX) = BEYOND
            7 * person(GUEST, 0)
            comes(8, 0) = BEYOND
            """);
        t.sentence("NONE.", ALWAYS_AT_0 + """
            person(GUEST, 3)
            comes(0, 4) = NONE
            comes(0, 11) = NONE
            """, SLOW_TO_COME + """
            minutes(18)
            # in 301 minutes
            comes(0, 8) = NONE
            """);
    }

    private static void plays(Sentences t) {
        t.promise(15);
        t.sentence("In how many MINUTES (1 to 300) PLAYED of one is more first.", """
            person(GUEST, 0)
            person(GUEST, 5)
            plays(0) = 1
            plays(1) = 5
            set(0, 3, 9998)
            plays(0) = 1
            """, SLOW_TO_PLAY + """
            minutes(24)
            plays(0) = 300
            minutes(200)
            minutes(99)
            of(0, 3) = 2
            plays(0) = 1
            minutes(1)
            of(0, 3) = 3
            """);
        t.sentence("BEYOND.", """
            plays(0) = BEYOND
            person(GUEST, 3)
            plays(-1) = BEYOND
            plays(1) = BEYOND
            plays(MIN) = BEYOND
            plays(MAX) = BEYOND
            7 * person(GUEST, 0)
            plays(8) = BEYOND
            """);
        t.sentence("NONE.", """
            # held
            person(GUEST, 0)
            set(0, 3, 9999)
            plays(0) = NONE
            """, SLOW_TO_PLAY + """
            minutes(23)
            # in 301 minutes
            plays(0) = NONE
            """);
    }

    private static void meet(Sentences t) {
        t.promise(16);
        t.sentence("In how many MINUTES (0 to 300) two are AT the same SPOT first.", """
            person(GUEST, 3)
            person(SINGER, 3)
            person(GUEST, 6)
            meet(0, 1) = 0
            meet(0, 2) = 6
            meet(2, 0) = 6
            """, SLOW_TO_MEET + """
            minutes(22)
            meet(0, 1) = 300
            meet(1, 0) = 300
            minutes(200)
            minutes(99)
            meet(0, 1) = 1
            minutes(1)
            meet(0, 1) = 0
            """);
        t.sentence("BEYOND: also one and the same.", """
            meet(0, 0) = BEYOND
            meet(0, 1) = BEYOND
            person(GUEST, 3)
            meet(0, 0) = BEYOND
            meet(0, 1) = BEYOND
            meet(1, 0) = BEYOND
            7 * person(GUEST, 3)
            meet(7, 7) = BEYOND
            meet(0, 8) = BEYOND
            meet(8, 0) = BEYOND
            meet(0, -1) = BEYOND
            meet(-1, 0) = BEYOND
            meet(0, MIN) = BEYOND
            meet(MIN, 0) = BEYOND
            meet(0, MAX) = BEYOND
            meet(MAX, 0) = BEYOND
            """);
        t.sentence("NONE.", ALWAYS_AT_0 + """
            # one stays at 0, one at 11, and no bell is heard
            person(GUEST, 0)
            person(ENEMY, 11)
            set(1, 3, 10)
            meet(0, 1) = NONE
            """, SLOW_TO_MEET + """
            minutes(21)
            # in 301 minutes
            meet(0, 1) = NONE
            """);
    }
}
