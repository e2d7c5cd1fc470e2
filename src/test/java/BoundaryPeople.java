/** Promises 1 to 10: a new object, the score and the people. */
final class BoundaryPeople {
    private BoundaryPeople() {
    }

    static void test(Sentences t) {
        newObject(t);
        scoreAndBell(t);
        now(t);
        whoAndPerson(t);
        of(t);
        set(t);
        turnAndAs(t);
    }

    private static void newObject(Sentences t) {
        t.promise(1);
        t.sentence("Nobody there;", """
            count(0) = 0
            count(2) = 0
            count(3) = 0
            of(0, 0) = BEYOND
            who(0) = 0
            now(4) = 0
            worst(0) = NONE
            """);
        t.sentence("THE TAPE is empty,", """
            count(1) = 0
            wipe() = 0
            interval() = -1
            """);
        t.sentence("no image is kept.", """
            tear() = 0
            undo() = NONE
            """);
    }

    private static void scoreAndBell(Sentences t) {
        t.promise(2);
        t.sentence("The SPOT of a QUARTER becomes v: what it was.", """
            score(0, 11) = 0
            score(0, 0) = 11
            score(0, 4) = 0
            now(2) = 4
            score(5, 11) = 1
            score(5, 0) = 11
            score(1, 0) = 5
            """);
        t.sentence("BEYOND.", """
            score(-1, 0) = BEYOND
            score(6, 0) = BEYOND
            score(MIN, 0) = BEYOND
            score(MAX, 0) = BEYOND
            score(0, -1) = BEYOND
            score(0, 12) = BEYOND
            score(0, MIN) = BEYOND
            score(0, MAX) = BEYOND
            """);
        t.promise(3);
        t.sentence("BELL (0 to 2) rings at a minute (0 to 47) from now on: at which it did.", """
            bell(0, 0) = 10
            now(3) = 0
            bell(0, 47) = 0
            now(3) = -1
            bell(0, 1) = 47
            bell(2, 47) = 30
            bell(2, 0) = 47
            now(3) = 2
            bell(1, 2) = 20
            """);
        t.sentence("BEYOND.", """
            bell(-1, 0) = BEYOND
            bell(3, 0) = BEYOND
            bell(MIN, 0) = BEYOND
            bell(MAX, 0) = BEYOND
            bell(0, -1) = BEYOND
            bell(0, 48) = BEYOND
            bell(0, MIN) = BEYOND
            bell(0, MAX) = BEYOND
            """);
    }

    private static void now(Sentences t) {
        t.promise(4);
        t.sentence("What 0 MINUTE,", """
            now(0) = 0
            minutes(200)
            now(0) = 200
            """);
        t.sentence("1 its QUARTER,", """
            minutes(47)
            now(1) = 5
            minutes(1)
            now(1) = 0
            minutes(8)
            now(1) = 1
            """);
        t.sentence("2 its SPOT by the SCORE,", """
            now(2) = 0
            minutes(7)
            now(2) = 0
            minutes(1)
            now(2) = 5
            # a bell rings: the score is what it was
            minutes(2)
            now(3) = 0
            now(2) = 5
            minutes(37)
            now(2) = 1
            minutes(1)
            now(2) = 0
            """);
        t.sentence("3 which bell rings (the last of several; -1: none),", """
            now(3) = -1
            bell(0, 0)
            now(3) = 0
            bell(1, 0)
            now(3) = 1
            bell(2, 0)
            now(3) = 2
            bell(1, 9)
            now(3) = 2
            bell(2, 9)
            now(3) = 0
            bell(0, 9)
            now(3) = -1
            """);
        t.sentence("4 who is where it is DUE, as a set,", """
            now(4) = 0
            8 * person(SINGER, 0)
            now(4) = 255
            set(0, 1, 1)
            set(6, 1, 1)
            now(4) = 190
            # an enemy is due at 11, and deceived at 0
            turn(7, ENEMY)
            now(4) = 62
            bell(0, 0)
            now(4) = 190
            """);
        t.sentence("5 100000 and HARMONY.", """
            now(5) = 100000
            8 * person(GUEST, 0)
            set(0, 3, 3)
            set(7, 4, 10)
            now(5) = 99993
            """, ofEight("set(%d, 4, 9999)") + "now(5) = 20008\n", ofEight("set(%d, 3, 9999)") + "now(5) = 179992\n");
        t.sentence("BEYOND.", """
            now(-1) = BEYOND
            now(6) = BEYOND
            now(MIN) = BEYOND
            now(MAX) = BEYOND
            """);
    }

    /** Eight guests, and a call on each. */
    static String ofEight(String call) {
        StringBuilder run = new StringBuilder("8 * person(GUEST, 0)\n");
        for (int p = 0; p < 8; p++) {
            run.append(call.replace("%d", Integer.toString(p))).append('\n');
        }
        return run.toString();
    }

    private static void whoAndPerson(Sentences t) {
        t.promise(5);
        t.sentence("Who is AT a SPOT, as a set.", """
            who(0) = 0
            who(11) = 0
            person(GUEST, 0)
            6 * person(GUEST, 5)
            person(GUEST, 11)
            who(0) = 1
            who(11) = 128
            who(5) = 126
            who(4) = 0
            """);
        t.sentence("BEYOND.", """
            who(-1) = BEYOND
            who(12) = BEYOND
            who(MIN) = BEYOND
            who(MAX) = BEYOND
            """);
        t.promise(6);
        t.sentence("One more AT a SPOT: the number.", """
            person(GUEST, 0) = 0
            person(RIVAL, 11) = 1
            of(0, 0) = 0
            of(0, 1) = 0
            of(1, 0) = 5
            of(1, 1) = 11
            count(0) = 2
            # one that was undone leaves nothing to the next of its number
            image()
            person(DIVA, 3) = 2
            set(2, 2, 4)
            set(2, 3, 50)
            set(2, 4, 60)
            undo() = 2
            person(GUEST, 5) = 2
            of(2, 2) = 1
            of(2, 3) = 0
            of(2, 4) = 0
            """);
        t.sentence("BEYOND: kind, spot.", """
            person(-1, 0) = BEYOND
            person(6, 0) = BEYOND
            person(MIN, 0) = BEYOND
            person(MAX, 0) = BEYOND
            person(GUEST, -1) = BEYOND
            person(GUEST, 12) = BEYOND
            person(GUEST, MIN) = BEYOND
            person(GUEST, MAX) = BEYOND
            count(0) = 0
            """);
        t.sentence("FULL.", """
            7 * person(GUEST, 0)
            person(GUEST, 0) = 7
            person(GUEST, 0) = FULL
            count(0) = 8
            person(6, 0) = BEYOND
            person(GUEST, 12) = BEYOND
            """);
    }

    private static void of(Sentences t) {
        t.promise(7);
        t.sentence("Of one: what 0 KIND,", """
            person(GUEST, 1)
            person(RIVAL, 1)
            of(0, 0) = 0
            of(1, 0) = 5
            """);
        t.sentence("1 SPOT,", """
            person(GUEST, 0)
            person(GUEST, 11)
            of(0, 1) = 0
            of(1, 1) = 11
            """);
        t.sentence("2 QUICK,", """
            person(GUEST, 0)
            of(0, 2) = 1
            set(0, 2, 4)
            of(0, 2) = 4
            """);
        t.sentence("3 PLAYED,", """
            person(GUEST, 0)
            of(0, 3) = 0
            set(0, 3, 9999)
            of(0, 3) = 9999
            of(0, 4) = 0
            """);
        t.sentence("4 SPOILT,", """
            person(GUEST, 0)
            of(0, 4) = 0
            set(0, 4, 9999)
            of(0, 4) = 9999
            of(0, 3) = 0
            """);
        t.sentence("5 DUE in this MINUTE,", """
            person(GUEST, 3)
            minutes(7)
            of(0, 5) = 0
            minutes(1)
            of(0, 5) = 5
            minutes(1)
            of(0, 5) = 5
            minutes(1)
            of(0, 5) = 0
            """);
        t.sentence("6 1 if it HEARS the bell that rings now, else 0 (0: none rings),", """
            person(SINGER, 3)
            person(LATE, 3)
            of(0, 6) = 0
            of(1, 6) = 0
            bell(2, 0)
            of(0, 6) = 1
            of(1, 6) = 0
            minutes(1)
            of(0, 6) = 0
            """);
        t.sentence("7 WALKS now (however near that is),", """
            person(GUEST, 0)
            set(0, 2, 4)
            of(0, 7) = 4
            set(0, 1, 1)
            of(0, 7) = 4
            person(LATE, 5)
            set(1, 2, 4)
            of(1, 7) = 8
            person(ENEMY, 4)
            of(2, 7) = 0
            set(1, 1, 6)
            of(2, 7) = 1
            """);
        t.sentence("8 SPOILS.", """
            person(GUEST, 0)
            of(0, 8) = 1
            person(SINGER, 5)
            of(1, 8) = 0
            person(LATE, 5)
            of(2, 8) = 5
            """);
        t.sentence("BEYOND.", """
            of(0, 0) = BEYOND
            person(GUEST, 0)
            of(-1, 0) = BEYOND
            of(1, 0) = BEYOND
            of(MIN, 0) = BEYOND
            of(MAX, 0) = BEYOND
            of(0, -1) = BEYOND
            of(0, 9) = BEYOND
            of(0, MIN) = BEYOND
            of(0, MAX) = BEYOND
            7 * person(GUEST, 0)
            of(8, 0) = BEYOND
            """);
    }

    private static void set(Sentences t) {
        t.promise(8);
        t.sentence("SPOT (what 1),", """
            person(GUEST, 3)
            set(0, 1, 11) = 3
            set(0, 1, 0) = 11
            of(0, 1) = 0
            set(0, 1, -1) = BEYOND
            set(0, 1, 12) = BEYOND
            """);
        t.sentence("QUICK (2),", """
            person(GUEST, 3)
            set(0, 2, 4) = 1
            set(0, 2, 1) = 4
            of(0, 2) = 1
            set(0, 2, 0) = BEYOND
            set(0, 2, 5) = BEYOND
            """);
        t.sentence("PLAYED (3),", """
            person(GUEST, 3)
            set(0, 3, 9999) = 0
            of(0, 3) = 9999
            set(0, 3, 0) = 9999
            of(0, 3) = 0
            set(0, 3, -1) = BEYOND
            set(0, 3, 10000) = BEYOND
            """);
        t.sentence("SPOILT (4) of one becomes v: what it was.", """
            person(GUEST, 3)
            set(0, 4, 9999) = 0
            of(0, 4) = 9999
            set(0, 4, 0) = 9999
            of(0, 4) = 0
            set(0, 4, -1) = BEYOND
            set(0, 4, 10000) = BEYOND
            """);
        t.sentence("BEYOND.", """
            set(0, 1, 1) = BEYOND
            person(GUEST, 3)
            set(-1, 1, 1) = BEYOND
            set(1, 1, 1) = BEYOND
            set(MIN, 1, 1) = BEYOND
            set(MAX, 1, 1) = BEYOND
            set(0, 0, 1) = BEYOND
            set(0, 5, 1) = BEYOND
            set(0, MIN, 1) = BEYOND
            set(0, MAX, 1) = BEYOND
            set(0, 1, MIN) = BEYOND
            set(0, 1, MAX) = BEYOND
            set(0, 2, MIN) = BEYOND
            set(0, 2, MAX) = BEYOND
            set(0, 3, MIN) = BEYOND
            set(0, 3, MAX) = BEYOND
            set(0, 4, MIN) = BEYOND
            set(0, 4, MAX) = BEYOND
            7 * person(GUEST, 0)
            set(8, 1, 1) = BEYOND
            """);
    }

    private static void turnAndAs(Sentences t) {
        t.promise(9);
        t.sentence("One becomes one of another KIND: what it was.", """
            person(GUEST, 3)
            set(0, 3, 7)
            turn(0, RIVAL) = 0
            of(0, 0) = 5
            turn(0, RIVAL) = 5
            turn(0, GUEST) = 5
            of(0, 0) = 0
            of(0, 1) = 3
            of(0, 3) = 7
            """);
        t.sentence("BEYOND.", """
            turn(0, GUEST) = BEYOND
            person(GUEST, 3)
            turn(-1, GUEST) = BEYOND
            turn(1, GUEST) = BEYOND
            turn(MIN, GUEST) = BEYOND
            turn(MAX, GUEST) = BEYOND
            turn(0, -1) = BEYOND
            turn(0, 6) = BEYOND
            turn(0, MIN) = BEYOND
            turn(0, MAX) = BEYOND
            7 * person(GUEST, 0)
            turn(8, GUEST) = BEYOND
            """);
        t.promise(10);
        t.sentence("One as one of a kind: PLAYED.", """
            person(DIVA, 3)
            as(0, DIVA) = 0
            set(0, 3, 9999)
            as(0, DIVA) = 9999
            as(0, SINGER) = 9999
            as(0, GUEST) = 9999
            """);
        t.sentence("BEYOND: no such one, kind.", """
            as(0, GUEST) = BEYOND
            person(GUEST, 3)
            as(-1, GUEST) = BEYOND
            as(1, GUEST) = BEYOND
            as(MIN, GUEST) = BEYOND
            as(MAX, GUEST) = BEYOND
            as(0, -1) = BEYOND
            as(0, 6) = BEYOND
            as(0, MIN) = BEYOND
            as(0, MAX) = BEYOND
            7 * person(GUEST, 0)
            as(8, GUEST) = BEYOND
            """);
        t.sentence("KIND: it isn't of that kind, nor of one under it.", """
            person(GUEST, 3)
            person(DIVA, 3)
            person(RIVAL, 3)
            as(0, ENEMY) = KIND
            as(0, DIVA) = KIND
            as(1, ENEMY) = KIND
            as(1, RIVAL) = KIND
            as(2, SINGER) = KIND
            as(2, LATE) = KIND
            turn(2, ENEMY)
            as(2, RIVAL) = KIND
            """);
    }
}
