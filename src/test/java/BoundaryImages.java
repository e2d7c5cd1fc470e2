/** Promises 32 to 36: images, count and status; and an object's 512th call. */
final class BoundaryImages {
    private BoundaryImages() {
    }

    static void test(Sentences t) {
        image(t);
        undo(t);
        tear(t);
        count(t);
        status(t);
    }

    private static void image(Sentences t) {
        t.promise(32);
        t.sentence("All that section 1 tells (THE TAPE not) is kept: 1.", """
            person(RIVAL, 4)
            set(0, 2, 3)
            set(0, 3, 40)
            set(0, 4, 50)
            score(5, 9)
            bell(2, 7)
            minutes(1)
            of(0, 1) = 7
            feed "gue"
            image() = 1
            # all of it changes
            turn(0, LATE)
            set(0, 1, 0)
            set(0, 2, 1)
            set(0, 3, 1)
            set(0, 4, 1)
            score(5, 0)
            score(0, 3)
            bell(2, 0)
            bell(0, 0)
            person(GUEST, 3)
            minutes(77)
            feed "st 5"
            undo() = 1
            count(0) = 1
            now(0) = 1
            of(0, 0) = 5
            of(0, 1) = 7
            of(0, 2) = 3
            of(0, 3) = 40
            of(0, 4) = 54
            score(5, 0) = 9
            score(0, 0) = 0
            bell(2, 0) = 7
            bell(0, 0) = 10
            # THE TAPE is as it is now, not as it was
            count(1) = 7
            interval() = 1
            of(1, 1) = 5
            """, """
            # sheets are of section 3
            sheet(0, 8, 2)
            write(0, 1, 6)
            image() = 1
            write(0, 1, 7) = 6
            sheet(1, 16, 1)
            undo() = 0
            write(0, 1, 0) = 7
            write(1, 0, 0) = 0
            """, """
            # nobody there, and a full foyer
            image() = 1
            8 * person(GUEST, 0)
            undo() = 0
            8 * person(LATE, 2)
            image() = 1
            undo() = 8
            of(7, 0) = 3
            """);
    }

    private static void undo(Sentences t) {
        t.promise(33);
        t.sentence("It becomes what was kept latest (which stays): how many PEOPLE.", """
            image()
            person(GUEST, 1)
            person(GUEST, 2)
            image()
            person(GUEST, 3)
            undo() = 2
            # it stays, and what happens afterwards does not change it
            set(1, 1, 9)
            score(0, 4)
            person(GUEST, 4)
            undo() = 2
            of(1, 1) = 2
            now(2) = 0
            undo() = 2
            # what only looks ahead does not change it
            begin(0, 50)
            deceive(0, 50)
            undo() = 2
            now(0) = 0
            of(0, 1) = 1
            """, """
            # what is kept is what was there then, not what has become of it
            person(GUEST, 1)
            image()
            minutes(5)
            set(0, 1, 7)
            undo() = 1
            now(0) = 0
            of(0, 1) = 1
            """);
        t.sentence("NONE: nothing is kept.", """
            undo() = NONE
            person(GUEST, 1)
            undo() = NONE
            count(0) = 1
            image()
            tear()
            undo() = NONE
            """);
    }

    private static void tear(Sentences t) {
        t.promise(34);
        t.sentence("Nothing is kept: 1 if something was, else 0.", """
            tear() = 0
            image()
            image()
            tear() = 1
            tear() = 0
            undo() = NONE
            person(GUEST, 4)
            image()
            undo() = 1
            tear() = 1
            of(0, 1) = 4
            tear() = 0
            """);
    }

    private static void count(Sentences t) {
        t.promise(35);
        t.sentence("0 PEOPLE,", """
            count(0) = 0
            8 * person(GUEST, 0)
            count(0) = 8
            person(GUEST, 0) = FULL
            count(0) = 8
            """);
        t.sentence("1 bytes of THE TAPE,", """
            count(1) = 0
            feed(0, 1)
            count(1) = 1
            29 * feed(0, 4)
            feed(0, 3)
            count(1) = 120
            feed(0, 1) = FULL
            count(1) = 120
            interval() = -1
            count(1) = 0
            """);
        t.sentence("2 PLAYED,", "count(2) = 0\n" + BoundaryPeople.ofEight("set(%d, 3, 9999)") + """
            count(2) = 79992
            count(3) = 0
            """);
        t.sentence("3 SPOILT of all together.", "count(3) = 0\n" + BoundaryPeople.ofEight("set(%d, 4, 9999)") + """
            count(3) = 79992
            count(2) = 0
            """);
        t.sentence("BEYOND: another what.", """
            count(-1) = BEYOND
            count(4) = BEYOND
            count(MIN) = BEYOND
            count(MAX) = BEYOND
            """);
    }

    private static void status(Sentences t) {
        t.promise(36);
        t.sentence("How many acts answered a finding ever (undo() takes none back): which -1: all,", """
            status(-1) = 0
            image()
            who(12) = BEYOND
            sheet(0, 8, -1) = SIZE
            status(-1) = 2
            undo()
            status(-1) = 2
            tear()
            undo() = NONE
            status(-1) = 3
            # an answer that is no finding is not counted, however low it is
            interval() = -1
            sheet(0, 64, 1)
            write(0, 0, -2000000000)
            write(0, 0, 0) = -2000000000
            status(-1) = 3
            """);
        t.sentence("0 to 6: BEYOND to SIZE.", """
            2 * who(12) = BEYOND
            8 * person(GUEST, 0)
            3 * person(GUEST, 0) = FULL
            4 * as(0, DIVA) = KIND
            5 * undo() = NONE
            6 * lays(0) = MISSING
            7 * sheet(0, 8, -1) = SIZE
            status(0) = 2
            status(1) = 3
            status(2) = 4
            status(3) = 5
            status(4) = 0
            status(5) = 6
            status(6) = 7
            status(-1) = 27
            """, """
            499 * minutes(200)
            2 * minutes(200) = STATE
            status(4) = 2
            status(3) = 0
            status(5) = 0
            status(-1) = 2
            """);
        t.sentence("BEYOND (counted from then on): another one.", """
            status(7) = BEYOND
            status(0) = 1
            status(-2) = BEYOND
            status(0) = 2
            status(MIN) = BEYOND
            status(MAX) = BEYOND
            status(0) = 4
            status(-1) = 4
            """, """
            # the 512th call of an object still answers, and counts all before it
            511 * status(7) = BEYOND
            status(0) = 511
            """);
    }
}
