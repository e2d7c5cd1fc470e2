/** Promises 26 to 31: sheets. */
public final class SheetsTest {
    private static final Check check = new Check();

    public static void main(String[] args) {
        sheet();
        write();
        copy();
        lays();
        book();
        read();
        check.end();
    }

    private static void sheet() {
        check.promise(26, "sheet");
        ComposedInterval x = new ComposedInterval();
        check.due("sheet(-1, 8, 1)", x.sheet(-1, 8, 1), Check.BEYOND);
        check.due("sheet(4, 8, 1)", x.sheet(4, 8, 1), Check.BEYOND);
        check.due("sheet(4, 8, -1)", x.sheet(4, 8, -1), Check.BEYOND);
        int[] others = {-8, -1, 1, 7, 9, 15, 32, 63, 65, 128};
        for (int bits : others) {
            check.due("sheet(0, " + bits + ", 1)", x.sheet(0, bits, 1), Check.BEYOND);
            check.due("sheet(0, " + bits + ", -1)", x.sheet(0, bits, -1), Check.BEYOND);
        }
        int[] rights = {0, 8, 16, 64};
        for (int bits : rights) {
            check.due("sheet(0, " + bits + ", -1)", x.sheet(0, bits, -1), Check.SIZE);
            check.due("sheet(0, " + bits + ", MIN)", x.sheet(0, bits, Integer.MIN_VALUE), Check.SIZE);
            check.due("sheet(0, " + bits + ", 41)", x.sheet(0, bits, 41), Check.BEYOND);
        }
        check.due("write(0, 0, 1), never laid", x.write(0, 0, 1), Check.MISSING);
        check.due("sheet(3, 8, 40)", x.sheet(3, 8, 40), 40);
        check.due("write(3, 39, 5)", x.write(3, 39, 5), 0);
        check.due("sheet(3, 8, 41) changes nothing", x.sheet(3, 8, 41), Check.BEYOND);
        check.due("write(3, 39, 6)", x.write(3, 39, 6), 5);
        check.due("sheet(3, 16, 40)", x.sheet(3, 16, 40), 40);
        check.due("write(3, 39, 5), all 0 again", x.write(3, 39, 5), 0);
        check.due("sheet(3, 0, 40)", x.sheet(3, 0, 40), 0);
        check.due("write(3, 39, 5)", x.write(3, 39, 5), Check.MISSING);
        check.due("sheet(3, 64, 0)", x.sheet(3, 64, 0), 0);
        check.due("write(3, 0, 5)", x.write(3, 0, 5), Check.BEYOND);
        check.due("status(6)", x.status(6), 8);
    }

    private static void write() {
        check.promise(27, "write");
        ComposedInterval x = new ComposedInterval();
        x.sheet(0, 8, 3);
        x.sheet(1, 16, 3);
        x.sheet(2, 64, 3);
        check.due("write(-1, 0, 0)", x.write(-1, 0, 0), Check.BEYOND);
        check.due("write(4, 0, 0)", x.write(4, 0, 0), Check.BEYOND);
        check.due("write(3, 0, 0)", x.write(3, 0, 0), Check.MISSING);
        check.due("write(3, 99, 0)", x.write(3, 99, 0), Check.MISSING);
        check.due("write(0, 3, 0)", x.write(0, 3, 0), Check.BEYOND);
        check.due("write(0, -1, 0)", x.write(0, -1, 0), Check.BEYOND);
        check.due("write(0, MAX, 0)", x.write(0, Integer.MAX_VALUE, 0), Check.BEYOND);
        long[] values = {1, 127, 128, 255, 256, -1, -128, -129, 32767, 32768, 65535, 65536, 0x1234567890abcdefL,
            Long.MIN_VALUE, Long.MAX_VALUE};
        long[] last = {0, 0, 0};
        for (long v : values) {
            check.due("write(0, 2, " + v + ")", x.write(0, 2, v), last[0]);
            check.due("write(1, 2, " + v + ")", x.write(1, 2, v), last[1]);
            check.due("write(2, 2, " + v + ")", x.write(2, 2, v), last[2]);
            last = new long[] {(byte) v, (short) v, v};
        }
        check.due("write(0, 1, 0)", x.write(0, 1, 0), 0);
    }

    private static void fill(ComposedInterval x, int s, long... values) {
        for (int i = 0; i < values.length; i++) {
            x.write(s, i, values[i]);
        }
    }

    private static void holds(ComposedInterval x, String when, int s, long... values) {
        for (int i = 0; i < values.length; i++) {
            check.due("number " + i + " of " + s + " " + when, x.write(s, i, values[i]), values[i]);
        }
    }

    private static void copy() {
        check.promise(28, "copy");
        ComposedInterval x = new ComposedInterval();
        x.sheet(0, 8, 5);
        x.sheet(1, 8, 3);
        x.sheet(2, 64, 5);
        fill(x, 0, 1, 2, 3, 4, 5);
        fill(x, 1, 7, 8, 9);
        check.due("copy(0, 3, 1, 1, 2)", x.copy(0, 3, 1, 1, 2), 2);
        holds(x, "after a copy", 1, 7, 4, 5);
        check.due("copy(0, 0, 0, 1, 4)", x.copy(0, 0, 0, 1, 4), 4);
        holds(x, "after a copy up", 0, 1, 1, 2, 3, 4);
        check.due("copy(0, 2, 0, 0, 3)", x.copy(0, 2, 0, 0, 3), 3);
        holds(x, "after a copy down", 0, 2, 3, 4, 3, 4);
        check.due("copy(0, 5, 1, 3, 0)", x.copy(0, 5, 1, 3, 0), 0);
        int[][] beyond = {
            {-1, 0, 1, 0, 1}, {4, 0, 1, 0, 1}, {0, 0, -1, 0, 1}, {0, 0, 4, 0, 1}, {3, 0, 4, 0, 1},
            {0, 0, 1, 0, 4}, {0, 4, 1, 0, 2}, {0, 0, 1, 2, 2}, {0, 6, 1, 0, 0}, {0, 0, 1, 4, 0},
            {0, -1, 1, 0, 1}, {0, 0, 1, -1, 1}, {0, 0, 1, 0, -1}, {0, 1, 1, 0, Integer.MAX_VALUE},
            {0, Integer.MAX_VALUE, 1, 0, 1}, {0, 0, 1, Integer.MAX_VALUE, 1},
            {0, Integer.MIN_VALUE, 1, 0, 1}, {0, 0, 1, 0, Integer.MIN_VALUE}};
        for (int[] b : beyond) {
            check.due("copy(" + b[0] + ", " + b[1] + ", " + b[2] + ", " + b[3] + ", " + b[4] + ")",
                x.copy(b[0], b[1], b[2], b[3], b[4]), Check.BEYOND);
        }
        check.due("copy from a missing one", x.copy(3, 0, 0, 0, 1), Check.MISSING);
        check.due("copy to a missing one", x.copy(0, 0, 3, 0, 99), Check.MISSING);
        check.due("copy missing to missing", x.copy(3, 0, 3, 0, 0), Check.MISSING);
        check.due("copy to other bits", x.copy(0, 0, 2, 0, 1), Check.KIND);
        check.due("copy too many to other bits", x.copy(2, -1, 0, 0, 99), Check.KIND);
        holds(x, "after findings", 0, 2, 3, 4, 3, 4);
        holds(x, "after findings", 1, 7, 4, 5);
    }

    private static void lays() {
        check.promise(29, "lays");
        ComposedInterval x = new ComposedInterval();
        check.due("lays(-1)", x.lays(-1), Check.BEYOND);
        check.due("lays(4)", x.lays(4), Check.BEYOND);
        check.due("lays(0)", x.lays(0), Check.MISSING);
        x.sheet(0, 64, 8);
        fill(x, 0, 11, 12, -1, 4, 4294967296L, 0, 1, 1);
        check.due("lays(0), some left out", x.lays(0), 3);
        int[] score = {11, 5, 10, 4, 8, 0};
        for (int q = 0; q < 6; q++) {
            check.due("score(" + q + ", 2)", x.score(q, 2), score[q]);
        }
        x.sheet(0, 8, 2);
        fill(x, 0, 3, 9);
        check.due("lays(0), two", x.lays(0), 2);
        int[] shorter = {3, 9, 2, 2, 2, 2};
        for (int q = 0; q < 6; q++) {
            check.due("score(" + q + ", 2)", x.score(q, 2), shorter[q]);
        }
        x.sheet(0, 16, 0);
        check.due("lays(0), none", x.lays(0), 0);
        x.sheet(0, 16, 40);
        check.due("lays(0), 40", x.lays(0), 6);
    }

    private static void book() {
        check.promise(30, "book");
        ComposedInterval x = new ComposedInterval();
        x.person(Check.GUEST, 3);
        check.due("book(-1, 9)", x.book(-1, 9), Check.BEYOND);
        check.due("book(4, 0)", x.book(4, 0), Check.BEYOND);
        check.due("book(0, 9)", x.book(0, 9), Check.MISSING);
        x.sheet(0, 8, 12);
        check.due("book(0, 1)", x.book(0, 1), Check.BEYOND);
        check.due("book(0, -1)", x.book(0, -1), Check.BEYOND);
        holds(x, "after findings", 0, 0, 0, 0);
        check.due("book(0, 0)", x.book(0, 0), 12);
        // Quarter 1 tells 5 from minute 8 on, and in minute 10 a bell deceives.
        x.set(0, 3, 0);
        holds(x, "of the book", 0, 3, 2, 1, 0, 0, 0, 0, 0, 0, 1, 2, 1);
        check.due("now(0)", x.now(0), 0);
        check.due("of(0, 1)", x.of(0, 1), 3);
        x.sheet(0, 64, 0);
        check.due("book(0, 0), none", x.book(0, 0), 0);
        for (int bits = 8; bits <= 64; bits *= 2) {
            if (bits != 32) {
                ComposedInterval y = MinutesTest.crowd(bits / 8);
                y.sheet(1, bits, 40);
                check.due("book(1, 5)", y.book(1, 5), 40);
                for (int n = 0; n < 40; n++) {
                    check.due("number " + n, y.write(1, n, 0), y.on(5, n, 0));
                }
            }
        }
    }

    private static void read() {
        check.promise(31, "read");
        ComposedInterval x = new ComposedInterval();
        x.person(Check.GUEST, 3);
        check.due("read(-1, 9)", x.read(-1, 9), Check.BEYOND);
        check.due("read(4, 0)", x.read(4, 0), Check.BEYOND);
        check.due("read(0, 9)", x.read(0, 9), Check.MISSING);
        x.sheet(0, 64, 0);
        check.due("read(0, 1)", x.read(0, 1), Check.BEYOND);
        check.due("read(0, -1)", x.read(0, -1), Check.BEYOND);
        check.due("read(0, 0), none", x.read(0, 0), 24);
        x.sheet(0, 64, 1);
        check.due("read(0, 0), another spot", x.read(0, 0), 0);
        x.write(0, 0, 3);
        check.due("read(0, 0), its spot", x.read(0, 0), 24);
        x.write(0, 0, 4294967299L);
        check.due("read(0, 0), its spot and 2 to the 32nd", x.read(0, 0), 0);
        // To 2: guest with QUICK 1, singer with any. To 4: late with any, enemy and rival with QUICK 1.
        x.sheet(0, 8, 2);
        fill(x, 0, 3, 2);
        check.due("read(0, 0), 3 2", x.read(0, 0), 5);
        fill(x, 0, 3, 4);
        check.due("read(0, 0), 3 4", x.read(0, 0), 6);
        // To 1: guest with QUICK 2, diva with QUICK 1.
        fill(x, 0, 3, 1);
        check.due("read(0, 0), 3 1", x.read(0, 0), 2);
        // To 0: guest with 3 or 4, diva with 2, 3 or 4.
        fill(x, 0, 3, 0);
        check.due("read(0, 0), 3 0", x.read(0, 0), 5);
        fill(x, 0, 3, -1);
        check.due("read(0, 0), 3 -1", x.read(0, 0), 0);
        // One more at 4 bars the enemies.
        x.person(Check.GUEST, 4);
        fill(x, 0, 3, 3);
        check.due("read(0, 0), 3 3, barred", x.read(0, 0), 8);
        check.due("of(0, 0)", x.of(0, 0), 0);
        check.due("of(0, 2)", x.of(0, 2), 1);
        for (int turn = 0; turn < 8; turn++) {
            readByTrying(turn);
        }
    }

    private static void readByTrying(int turn) {
        ComposedInterval x = MinutesTest.crowd(turn);
        int size = 2 + turn;
        x.sheet(0, 16, size);
        x.book(0, turn);
        int pairs = 0;
        for (int kind = 0; kind < 6; kind++) {
            for (int quick = 1; quick <= 4; quick++) {
                pairs += sameWay(turn, size, kind, quick) ? 1 : 0;
            }
        }
        check.due("read(0, " + turn + ")", x.read(0, turn), pairs);
    }

    private static boolean sameWay(int turn, int size, int kind, int quick) {
        ComposedInterval told = MinutesTest.crowd(turn);
        ComposedInterval other = MinutesTest.crowd(turn);
        other.turn(turn, kind);
        other.set(turn, 2, quick);
        for (int n = 1; n < size; n++) {
            told.minutes(1);
            other.minutes(1);
            if (told.of(turn, 1) != other.of(turn, 1)) {
                return false;
            }
        }
        return true;
    }
}
