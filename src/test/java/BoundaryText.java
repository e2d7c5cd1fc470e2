/** Promises 23 to 25: the text. */
final class BoundaryText {
    private BoundaryText() {
    }

    static void test(Sentences t) {
        feed(t);
        wipe(t);
        interval(t);
    }

    private static void feed(Sentences t) {
        t.promise(23);
        t.sentence("THE TAPE gets the n lowest bytes of a number behind it, the highest of these first (n 1 to 4):"
            + " how many it has.", """
            # la, te and a blank, and 7: what stands higher in the number is left out
            feed(0x7f7f6c61, 2) = 2
            feed(-9149152, 3) = 5
            feed(-201, 1) = 6
            count(1) = 6
            interval() = 1
            of(0, 0) = 3
            of(0, 1) = 7
            # diva, a blank and 1 in four and two
            feed(0x64697661, 4) = 4
            feed(0x2031, 2) = 6
            interval() = 1
            of(1, 0) = 4
            of(1, 1) = 1
            # a byte above 127 is one byte
            feed(-1, 4) = 4
            interval() = -1
            """);
        t.sentence("BEYOND: n.", """
            feed(0x31, 0) = BEYOND
            feed(0x31, -1) = BEYOND
            feed(0x31, 5) = BEYOND
            feed(0x31, MIN) = BEYOND
            feed(0x31, MAX) = BEYOND
            count(1) = 0
            30 * feed(0x20202020, 4)
            feed(0x31, 0) = BEYOND
            feed(0x31, 5) = BEYOND
            feed(0x31, MAX) = BEYOND
            count(1) = 120
            """);
        t.sentence("FULL.", """
            29 * feed(0x20202020, 4)
            feed(0x202020, 3) = 119
            feed(0x2020, 2) = FULL
            feed(0x202020, 3) = FULL
            feed(0x20202020, 4) = FULL
            count(1) = 119
            feed(0x20, 1) = 120
            feed(0x20, 1) = FULL
            count(1) = 120
            wipe() = 120
            feed(0x20, 1) = 1
            """);
    }

    private static void wipe(Sentences t) {
        t.promise(24);
        t.sentence("THE TAPE is empty: how many it had.", """
            wipe() = 0
            feed "guest 3;"
            wipe() = 8
            count(1) = 0
            wipe() = 0
            # nothing of it is left
            feed "late 4"
            interval() = 1
            of(0, 0) = 3
            30 * feed(0x20202020, 4)
            wipe() = 120
            count(1) = 0
            """);
    }

    private static void interval(Sentences t) {
        t.promise(25);
        t.sentence("THE TAPE is THE TEXT of an INTERVAL, whose ITEMS come to what there is, and empty then:"
            + " how many ITEMS.", """
            person(GUEST, 1)
            set(0, 3, 5)
            minutes(3)
            feed "diva 2;score 0 4;bell 1 9;score 0 7"
            interval() = 4
            count(1) = 0
            count(0) = 2
            # the one that was there before stays as it was
            of(0, 0) = 0
            of(0, 1) = 0
            of(0, 3) = 8
            now(0) = 3
            of(1, 0) = 4
            of(1, 1) = 2
            # the later of two items stands
            now(2) = 7
            bell(1, 0) = 9
            bell(0, 0) = 10
            interval() = -1
            feed "enemy 5"
            interval() = 1
            of(2, 0) = 1
            """);
        t.sentence("With a FAULT: -1 less its place", """
            interval() = -1
            feed "guest #"
            interval() = -7
            30 * feed(0x20202020, 4)
            interval() = -121
            29 * feed(0x20202020, 4)
            feed(0x2020203b, 4)
            interval() = -120
            """);
        t.sentence("(nothing changes but that THE TAPE is empty; no finding).", """
            person(DIVA, 2)
            minutes(3)
            image()
            feed "guest 1;score 0 4;bell 0 4;rival 2 quick 9"
            interval() = -42
            count(1) = 0
            count(0) = 1
            now(0) = 3
            now(2) = 0
            of(0, 3) = 3
            score(0, 1) = 0
            bell(0, 1) = 10
            status(-1) = 0
            undo() = 1
            # a person of the refused text does not come later either
            feed "guest 1"
            interval() = 1
            of(1, 0) = 0
            count(0) = 2
            """);
    }
}
