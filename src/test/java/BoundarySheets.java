/** Promises 26 to 31: sheets. */
final class BoundarySheets {
    private BoundarySheets() {
    }

    static void test(Sentences t) {
        sheet(t);
        write(t);
        copy(t);
        lays(t);
        book(t);
        read(t);
    }

    private static void sheet(Sentences t) {
        t.promise(26);
        t.sentence("A sheet has n numbers, all 0, of 8, 16 or 64 bits;", """
            sheet(0, 8, 40) = 40
            sheet(1, 16, 1) = 1
            sheet(3, 64, 0) = 0
            write(0, 39, 5) = 0
            write(1, 0, 5) = 0
            write(1, 1, 5) = BEYOND
            write(3, 0, 5) = BEYOND
            # laid again it is all 0 again
            sheet(0, 8, 40) = 40
            write(0, 39, 6) = 0
            sheet(0, 64, 2) = 2
            write(0, 1, 7) = 0
            write(0, 2, 7) = BEYOND
            sheet(0, 64, 40) = 40
            write(0, 39, 7) = 0
            write(0, 1, 7) = 0
            """);
        t.sentence("bits 0: it is MISSING: n (0 if it is MISSING).", """
            sheet(0, 8, 3) = 3
            sheet(0, 0, 40) = 0
            write(0, 0, 1) = MISSING
            sheet(0, 0, 0) = 0
            write(0, 0, 1) = MISSING
            sheet(3, 0, 1) = 0
            write(3, 0, 1) = MISSING
            """);
        t.sentence("BEYOND: no such sheet, other bits.", """
            sheet(-1, 8, 1) = BEYOND
            sheet(4, 8, 1) = BEYOND
            sheet(MIN, 8, 1) = BEYOND
            sheet(MAX, 8, 1) = BEYOND
            sheet(4, 8, -1) = BEYOND
            sheet(0, -1, 1) = BEYOND
            sheet(0, 1, 1) = BEYOND
            sheet(0, 7, 1) = BEYOND
            sheet(0, 9, 1) = BEYOND
            sheet(0, 15, 1) = BEYOND
            sheet(0, 17, 1) = BEYOND
            sheet(0, 32, 1) = BEYOND
            sheet(0, 63, 1) = BEYOND
            sheet(0, 65, 1) = BEYOND
            sheet(0, 128, 1) = BEYOND
            sheet(0, MIN, 1) = BEYOND
            sheet(0, MAX, 1) = BEYOND
            sheet(0, 32, -1) = BEYOND
            """);
        t.sentence("SIZE: n is below 0 (also with bits 0).", """
            sheet(0, 8, -1) = SIZE
            sheet(0, 16, -1) = SIZE
            sheet(0, 64, MIN) = SIZE
            sheet(0, 0, -1) = SIZE
            sheet(0, 0, MIN) = SIZE
            sheet(0, 8, 2) = 2
            sheet(0, 0, -1) = SIZE
            write(0, 1, 5) = 0
            """);
        t.sentence("BEYOND: n is above 40 (also with bits 0).", """
            sheet(0, 8, 41) = BEYOND
            sheet(0, 16, 41) = BEYOND
            sheet(0, 64, MAX) = BEYOND
            sheet(0, 0, 41) = BEYOND
            sheet(0, 0, MAX) = BEYOND
            sheet(0, 8, 2) = 2
            sheet(0, 0, 41) = BEYOND
            write(0, 1, 5) = 0
            """);
    }

    private static void write(Sentences t) {
        t.promise(27);
        // That numbers of 8 and 16 bits have a sign, as those of 64, is a reading: NOTES.md.
        t.sentence("Number i of a sheet becomes v (its lowest bits): what it was.", """
            sheet(0, 8, 2)
            write(0, 0, 127) = 0
            write(0, 0, 261) = 127
            write(0, 0, 256) = 5
            write(0, 0, 128) = 0
            write(0, 0, -1) = -128
            write(0, 0, 0x7fffffffffffff03) = -1
            write(0, 0, LONG_MIN) = 3
            write(0, 0, 1) = 0
            write(0, 1, 1) = 0
            """, """
            sheet(1, 16, 40)
            write(1, 39, 32767) = 0
            write(1, 39, 65541) = 32767
            write(1, 39, 65536) = 5
            write(1, 39, 32768) = 0
            write(1, 39, -1) = -32768
            write(1, 39, 255) = -1
            write(1, 39, 1) = 255
            """, """
            sheet(3, 64, 1)
            write(3, 0, LONG_MAX) = 0
            write(3, 0, LONG_MIN) = 9223372036854775807
            write(3, 0, 4294967296) = -9223372036854775808
            write(3, 0, -1) = 4294967296
            write(3, 0, 0) = -1
            """);
        t.sentence("BEYOND: no such sheet.", """
            write(-1, 0, 1) = BEYOND
            write(4, 0, 1) = BEYOND
            write(MIN, 0, 1) = BEYOND
            write(MAX, 0, 1) = BEYOND
            """);
        t.sentence("MISSING.", """
            write(0, 0, 1) = MISSING
            write(3, -1, 1) = MISSING
            sheet(0, 8, 1)
            write(0, 0, 1) = 0
            sheet(0, 0, 1)
            write(0, 0, 1) = MISSING
            write(0, 99, 1) = MISSING
            """);
        t.sentence("BEYOND: no such number.", """
            sheet(0, 8, 0)
            write(0, 0, 1) = BEYOND
            sheet(0, 8, 3)
            write(0, -1, 1) = BEYOND
            write(0, 3, 1) = BEYOND
            write(0, MIN, 1) = BEYOND
            write(0, MAX, 1) = BEYOND
            sheet(0, 8, 40)
            write(0, 39, 1) = 0
            write(0, 40, 1) = BEYOND
            """);
    }

    private static void copy(Sentences t) {
        String two = """
            sheet(0, 8, 5)
            write(0, 0, 1)
            write(0, 1, 2)
            write(0, 2, 3)
            write(0, 3, 4)
            write(0, 4, 5)
            sheet(1, 8, 3)
            write(1, 0, 7)
            write(1, 1, 8)
            write(1, 2, 9)
            """;
        t.promise(28);
        t.sentence("n numbers of a sheet from one on come to another one from one on (as they all were): n.", two + """
            copy(0, 3, 1, 1, 2) = 2
            write(1, 0, 0) = 7
            write(1, 1, 0) = 4
            write(1, 2, 0) = 5
            write(0, 3, 4) = 4
            # all of it, and none at the very end
            copy(1, 0, 1, 0, 3) = 3
            copy(0, 5, 1, 3, 0) = 0
            copy(0, 0, 1, 0, 0) = 0
            """, two + """
            # in the same sheet, upwards
            copy(0, 0, 0, 1, 4) = 4
            write(0, 0, 0) = 1
            write(0, 1, 0) = 1
            write(0, 2, 0) = 2
            write(0, 3, 0) = 3
            write(0, 4, 0) = 4
            """, two + """
            # and downwards
            copy(0, 1, 0, 0, 4) = 4
            write(0, 0, 0) = 2
            write(0, 1, 0) = 3
            write(0, 2, 0) = 4
            write(0, 3, 0) = 5
            write(0, 4, 0) = 5
            """, """
            sheet(2, 64, 40)
            sheet(3, 64, 40)
            write(2, 39, LONG_MIN)
            copy(2, 0, 3, 0, 40) = 40
            write(3, 39, 0) = -9223372036854775808
            """);
        t.sentence("BEYOND: no such sheet (either).", two + """
            copy(-1, 0, 1, 0, 1) = BEYOND
            copy(4, 0, 1, 0, 1) = BEYOND
            copy(0, 0, -1, 0, 1) = BEYOND
            copy(0, 0, 4, 0, 1) = BEYOND
            copy(MIN, 0, MAX, 0, 1) = BEYOND
            copy(MAX, 0, MIN, 0, 1) = BEYOND
            copy(2, 0, 4, 0, 1) = BEYOND
            copy(4, 0, 2, 0, 1) = BEYOND
            """);
        t.sentence("MISSING: one is.", two + """
            copy(2, 0, 0, 0, 1) = MISSING
            copy(0, 0, 2, 0, 1) = MISSING
            copy(2, 0, 3, 0, 1) = MISSING
            copy(2, 0, 2, 0, 0) = MISSING
            copy(0, 0, 3, 0, -1) = MISSING
            sheet(1, 0, 0)
            copy(0, 0, 1, 0, 1) = MISSING
            """);
        t.sentence("KIND: they are not of as many bits.", two + """
            sheet(2, 16, 5)
            sheet(3, 64, 5)
            copy(0, 0, 2, 0, 1) = KIND
            copy(2, 0, 0, 0, 1) = KIND
            copy(2, 0, 3, 0, 1) = KIND
            copy(0, 0, 3, 0, 0) = KIND
            copy(0, -1, 3, 99, -1) = KIND
            """);
        t.sentence("BEYOND: one has not so many, or from, to or n is below 0.", two + """
            copy(0, 0, 1, 0, 4) = BEYOND
            copy(1, 0, 0, 0, 4) = BEYOND
            copy(0, 4, 1, 0, 2) = BEYOND
            copy(0, 0, 1, 2, 2) = BEYOND
            copy(0, 6, 1, 0, 0) = BEYOND
            copy(0, 0, 1, 4, 0) = BEYOND
            copy(0, -1, 1, 0, 1) = BEYOND
            copy(0, 0, 1, -1, 1) = BEYOND
            copy(0, 0, 1, 0, -1) = BEYOND
            copy(0, MIN, 1, 0, 1) = BEYOND
            copy(0, 0, 1, MIN, 1) = BEYOND
            copy(0, 0, 1, 0, MIN) = BEYOND
            copy(0, MAX, 1, 0, 1) = BEYOND
            copy(0, 0, 1, MAX, 1) = BEYOND
            copy(0, 0, 1, 0, MAX) = BEYOND
            copy(0, 1, 1, 1, MAX) = BEYOND
            copy(0, MAX, 1, MAX, MAX) = BEYOND
            copy(0, MIN, 1, MIN, MIN) = BEYOND
            """);
    }

    private static void lays(Sentences t) {
        t.promise(29);
        t.sentence("Numbers of a sheet become the SPOTS of QUARTERS 0, 1, .. in the SCORE", """
            sheet(0, 8, 6)
            write(0, 0, 11)
            write(0, 5, 7)
            lays(0) = 6
            score(0, 1) = 11
            score(1, 1) = 0
            score(2, 1) = 0
            score(3, 1) = 0
            score(4, 1) = 0
            score(5, 1) = 7
            # fewer than the quarters
            sheet(3, 16, 2)
            write(3, 1, 9)
            lays(3) = 2
            score(0, 0) = 0
            score(1, 0) = 9
            score(2, 0) = 1
            """);
        t.sentence("(those that aren't 0 to 11, or stand for none, are left out): how many came.", """
            sheet(0, 64, 8)
            write(0, 0, 11)
            write(0, 1, 12)
            write(0, 2, -1)
            write(0, 3, 4294967300)
            write(0, 4, LONG_MIN)
            write(0, 5, 0)
            write(0, 6, 1)
            write(0, 7, 1)
            lays(0) = 2
            score(0, 2) = 11
            score(1, 2) = 5
            score(2, 2) = 10
            score(3, 2) = 3
            score(4, 2) = 8
            score(5, 2) = 0
            # none, and 34 more than there are quarters
            sheet(0, 8, 0)
            lays(0) = 0
            score(0, 2) = 2
            sheet(0, 8, 40)
            lays(0) = 6
            """);
        t.sentence("BEYOND: no such sheet.", """
            lays(-1) = BEYOND
            lays(4) = BEYOND
            lays(MIN) = BEYOND
            lays(MAX) = BEYOND
            """);
        t.sentence("MISSING.", """
            lays(0) = MISSING
            lays(3) = MISSING
            sheet(3, 8, 2)
            lays(3) = 2
            sheet(3, 0, 2)
            lays(3) = MISSING
            """);
    }

    private static void book(Sentences t) {
        t.promise(30);
        t.sentence("A book: the SPOT of one 0, 1, 2, .. MINUTES AHEAD comes to a sheet, as many as it has numbers:"
            + " how many.", """
            person(GUEST, 3)
            sheet(0, 8, 0)
            book(0, 0) = 0
            sheet(0, 8, 1)
            book(0, 0) = 1
            write(0, 0, 9) = 3
            # quarter 1 tells 5 from minute 8 on, and in minute 10 a bell deceives
            sheet(0, 16, 12)
            write(0, 4, 8)
            book(0, 0) = 12
            write(0, 0, 0) = 3
            write(0, 1, 0) = 2
            write(0, 2, 0) = 1
            write(0, 3, 0) = 0
            write(0, 4, 0) = 0
            write(0, 8, 0) = 0
            write(0, 9, 0) = 1
            write(0, 10, 0) = 2
            write(0, 11, 0) = 1
            # only the sheet has changed
            now(0) = 0
            of(0, 1) = 3
            of(0, 3) = 0
            of(0, 4) = 0
            new
            person(GUEST, 3)
            image()
            person(GUEST, 4)
            feed "late 2"
            sheet(0, 8, 3)
            sheet(1, 8, 3)
            write(1, 1, 7)
            book(0, 1) = 3
            write(0, 0, 0) = 4
            write(0, 2, 0) = 2
            write(1, 0, 0) = 0
            write(1, 1, 0) = 7
            count(1) = 6
            interval() = 1
            of(2, 1) = 2
            undo() = 1
            of(0, 1) = 3
            """, """
            # 40 of them: minute 39 is the last that goes, and quarter 4 tells 8
            person(DIVA, 0)
            set(0, 2, 4)
            sheet(3, 64, 40)
            book(3, 0) = 40
            write(3, 7, 0) = 0
            write(3, 8, 0) = 5
            write(3, 9, 0) = 10
            write(3, 10, 0) = 11
            write(3, 39, 0) = 8
            """);
        t.sentence("BEYOND: no such sheet.", """
            person(GUEST, 3)
            book(-1, 0) = BEYOND
            book(4, 0) = BEYOND
            book(MIN, 0) = BEYOND
            book(MAX, 0) = BEYOND
            """);
        t.sentence("MISSING.", """
            person(GUEST, 3)
            book(0, 0) = MISSING
            book(3, 1) = MISSING
            sheet(0, 8, 1)
            sheet(0, 0, 1)
            book(0, 0) = MISSING
            """);
        t.sentence("BEYOND: person.", """
            sheet(0, 8, 1)
            book(0, 0) = BEYOND
            sheet(0, 8, 0)
            book(0, 0) = BEYOND
            person(GUEST, 3)
            book(0, -1) = BEYOND
            book(0, 1) = BEYOND
            book(0, MIN) = BEYOND
            book(0, MAX) = BEYOND
            7 * person(GUEST, 3)
            book(0, 8) = BEYOND
            """);
    }

    private static void read(Sentences t) {
        t.promise(31);
        t.sentence("THE READER: numbers of a sheet are the SPOT of one 0, 1, 2, .. MINUTES AHEAD:", """
            person(GUEST, 3)
            # no numbers: any way is just so
            sheet(0, 64, 0)
            read(0, 0) = 24
            sheet(0, 64, 1)
            read(0, 0) = 0
            write(0, 0, 3)
            read(0, 0) = 24
            write(0, 0, 4294967299)
            read(0, 0) = 0
            write(0, 0, -253)
            read(0, 0) = 0
            """, """
            # the last of 40 counts too
            person(DIVA, 0)
            set(0, 2, 4)
            sheet(0, 8, 40)
            book(0, 0) = 40
            read(0, 0) = 1
            write(0, 39, 7) = 8
            read(0, 0) = 0
            """);
        t.sentence("how many pairs of a KIND and QUICK (1 to 4) of it make it just so.", """
            person(GUEST, 3)
            sheet(0, 8, 2)
            write(0, 0, 3)
            # guest with QUICK 1, singer with any
            write(0, 1, 2)
            read(0, 0) = 5
            # late with any, enemy and rival with QUICK 1
            write(0, 1, 4)
            read(0, 0) = 6
            # guest with QUICK 2, diva with QUICK 1
            write(0, 1, 1)
            read(0, 0) = 2
            # guest with QUICK 3 or 4, diva with 2, 3 or 4
            write(0, 1, 0)
            read(0, 0) = 5
            # enemy and rival with QUICK 4
            write(0, 1, 7)
            read(0, 0) = 2
            # one at 4 bars enemy and rival
            person(GUEST, 4)
            write(0, 1, 3)
            read(0, 0) = 8
            of(0, 0) = 0
            of(0, 2) = 1
            """);
        t.sentence("BEYOND: no such sheet.", """
            person(GUEST, 3)
            read(-1, 0) = BEYOND
            read(4, 0) = BEYOND
            read(MIN, 0) = BEYOND
            read(MAX, 0) = BEYOND
            """);
        t.sentence("MISSING.", """
            person(GUEST, 3)
            read(0, 0) = MISSING
            read(3, 1) = MISSING
            sheet(0, 8, 1)
            sheet(0, 0, 1)
            read(0, 0) = MISSING
            """);
        t.sentence("BEYOND: person.", """
            sheet(0, 8, 0)
            read(0, 0) = BEYOND
            person(GUEST, 3)
            read(0, -1) = BEYOND
            read(0, 1) = BEYOND
            read(0, MIN) = BEYOND
            read(0, MAX) = BEYOND
            7 * person(GUEST, 3)
            read(0, 8) = BEYOND
            """);
    }
}
