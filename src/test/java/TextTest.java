/** Promises 23 to 25: the text. */
public final class TextTest {
    private static final Check check = new Check();

    public static void main(String[] args) {
        feed();
        wipe();
        intervalComes();
        intervalStands();
        intervalFaults();
        intervalFull();
        intervalChangesNothing();
        check.end();
    }

    private static void feed() {
        check.promise(23, "feed");
        ComposedInterval x = new ComposedInterval();
        check.due("feed(0, 0)", x.feed(0, 0), Check.BEYOND);
        check.due("feed(0, 5)", x.feed(0, 5), Check.BEYOND);
        check.due("feed(0, -1)", x.feed(0, -1), Check.BEYOND);
        // "late 7", the highest of the bytes first, and only the lowest n.
        check.due("feed la", x.feed(0x7f7f6c61, 2), 2);
        check.due("feed te ", x.feed(0xff746520, 3), 5);
        check.due("feed 7", x.feed(0xffffff37, 1), 6);
        check.due("interval()", x.interval(), 1);
        check.due("of(0, 0)", x.of(0, 0), Check.LATE);
        check.due("of(0, 1)", x.of(0, 1), 7);
        for (int n = 4; n <= 116; n += 4) {
            check.due("feed", x.feed(0x20202020, 4), n);
        }
        check.due("feed to 119", x.feed(0x20202020, 3), 119);
        check.due("feed to 121", x.feed(0x20202020, 2), Check.FULL);
        check.due("feed(0, 5) to 124", x.feed(0x20202020, 5), Check.BEYOND);
        check.due("count(1)", x.count(1), 119);
        check.due("feed to 120", x.feed(0x20, 1), 120);
        check.due("feed to 121", x.feed(0x20, 1), Check.FULL);
        check.due("interval(), 120 blanks", x.interval(), -121);
        check.due("count(1)", x.count(1), 0);
    }

    private static void wipe() {
        check.promise(24, "wipe");
        ComposedInterval x = new ComposedInterval();
        check.due("wipe()", x.wipe(), 0);
        Check.feed(x, "guest 3;");
        check.due("wipe()", x.wipe(), 8);
        check.due("wipe()", x.wipe(), 0);
        check.due("count(1)", x.count(1), 0);
        Check.feed(x, "guest 4");
        check.due("interval()", x.interval(), 1);
        check.due("of(0, 1)", x.of(0, 1), 4);
    }

    private static void intervalComes() {
        check.promise(25, "interval");
        ComposedInterval x = new ComposedInterval();
        x.person(Check.GUEST, 1);
        Check.feed(x, "enemy 3 quick 2;score 2 11;bell 1 47;diva 0;score 2 7");
        check.due("interval()", x.interval(), 5);
        check.due("count(0)", x.count(0), 3);
        check.due("count(1)", x.count(1), 0);
        int[][] people = {{0, 1, 1}, {1, 3, 2}, {4, 0, 1}};
        for (int p = 0; p < 3; p++) {
            for (int what = 0; what < 3; what++) {
                check.due("of(" + p + ", " + what + ")", x.of(p, what), people[p][what]);
            }
            check.due("of(" + p + ", 3)", x.of(p, 3), 0);
            check.due("of(" + p + ", 4)", x.of(p, 4), 0);
        }
        check.due("score(2, 0)", x.score(2, 0), 7);
        check.due("bell(1, 0)", x.bell(1, 0), 47);
        check.due("now(0)", x.now(0), 0);
        String[] names = {"guest", "enemy", "singer", "late", "diva", "rival"};
        for (int k = 0; k < 6; k++) {
            x = new ComposedInterval();
            Check.feed(x, names[k] + " 11 quick 4");
            check.due("interval(), " + names[k], x.interval(), 1);
            check.due("of(0, 0)", x.of(0, 0), k);
            check.due("of(0, 1)", x.of(0, 1), 11);
            check.due("of(0, 2)", x.of(0, 2), 4);
        }
    }

    private static void answers(String text, int due) {
        ComposedInterval x = new ComposedInterval();
        Check.feed(x, text);
        check.due("interval() of '" + text + "'", x.interval(), due);
        check.due("status(-1) after '" + text + "'", x.status(-1), 0);
        check.due("count(1) after '" + text + "'", x.count(1), 0);
    }

    private static void intervalStands() {
        answers("guest 0", 1);
        answers("guest0", 1);
        answers("  guest   0  ", 1);
        answers("guest0quick1;rival11", 2);
        answers("guest 0 ; guest 0 ; guest 0", 3);
        answers("guest 007", 1);
        answers("guest 00000000000000000000000000000000000003", 1);
        answers("score 5 11", 1);
        answers("score5 0;bell2 0;bell 0 47", 3);
        answers("score 0 0 ; bell 00 000", 2);
    }

    private static void intervalFaults() {
        answers("", -1);
        answers("   ", -4);
        answers("guest", -6);
        answers("guest ", -7);
        answers("guest 1;", -9);
        answers("guest 1; ", -10);
        answers("guest 1 quick", -14);
        answers("score 1", -8);
        answers("bell", -5);
        answers(";", -1);
        answers(" ;guest 1", -2);
        answers("guest 1;;guest 1", -9);
        answers("3", -1);
        answers("guest guest", -7);
        answers("guest ;", -7);
        answers("guest 12", -7);
        answers("guest 1000", -7);
        answers("guest 4294967296", -7);
        answers("guest 99999999999999999999999999999", -7);
        answers("guest 1 2", -9);
        answers("guest 1 guest 2", -9);
        answers("guest 1 quick 0", -15);
        answers("guest 1 quick 5", -15);
        answers("guest 1 quick ;", -15);
        answers("guest 1 quick 2 quick 2", -17);
        answers("guest 1 quick 2 3", -17);
        answers("guest 1 quickly 2", -9);
        answers("guest 1 quic 2", -9);
        answers("guests 1", -1);
        answers("gues 1", -1);
        answers("guestquick 1", -1);
        answers("quick 1", -1);
        answers("quest 1", -1);
        answers("guestz 1", -1);
        answers("guesta 1", -1);
        answers("guest 1az", -8);
        answers("Guest 1", -1);
        answers("guesT 1", -1);
        answers("guest 1#", -8);
        answers("guest #1", -7);
        answers("guest -1", -7);
        answers("guest\t1", -6);
        answers("guest 1\n", -8);
        answers("guest 1;#", -9);
        answers("guest 1;\u0000", -9);
        answers("guest 1 \u00e9", -9);
        answers("score 6 0", -7);
        answers("score 0 12", -9);
        answers("score 1 1 1", -11);
        answers("score 1 1 quick 1", -11);
        answers("score;", -6);
        answers("bell 3 0", -6);
        answers("bell 0 48", -8);
        answers("bell 1 quick", -8);
        answers("bell 1 1 quick 1", -10);
        answers("{", -1);
        answers("`", -1);
        answers("/", -1);
        answers(":", -1);
        answers("guest 1;score 2 3;bell 1 99", -26);
        answers("score0 1;bell x", -15);
    }

    private static void intervalFull() {
        ComposedInterval x = new ComposedInterval();
        Check.feed(x, "guest0;guest0;guest0;guest0;guest0;guest0;guest0;guest0;guest0");
        check.due("interval(), 9 of them", x.interval(), -57);
        check.due("count(0)", x.count(0), 0);
        Check.feed(x, "late0;late0;late0;late0;late0;late0;late0;late0;score 1 1;bell 1 1");
        check.due("interval(), 8 of them", x.interval(), 10);
        check.due("count(0)", x.count(0), 8);
        Check.feed(x, "score 1 2; guest");
        check.due("interval(), a 9th that ends early", x.interval(), -12);
        check.due("score(1, 1)", x.score(1, 1), 1);
        Check.feed(x, "score 1 2");
        check.due("interval(), no 9th", x.interval(), 1);
        check.due("score(1, 1)", x.score(1, 1), 2);
        check.due("status(-1)", x.status(-1), 0);
        // A full tape; later items come over earlier ones.
        x = new ComposedInterval();
        StringBuilder text = new StringBuilder("score0 0");
        for (int i = 1; i < 13; i++) {
            text.append(";score").append(i % 6).append(' ').append(i % 10);
        }
        Check.feed(x, text + "    ");
        check.due("count(1)", x.count(1), 120);
        check.due("interval(), 13 items", x.interval(), 13);
        check.due("score(2, 0)", x.score(2, 0), 8);
        Check.feed(x, text + ";gue");
        check.due("interval(), cut at the tape's end", x.interval(), -118);
        check.due("score(2, 0)", x.score(2, 0), 0);
        Check.feed(x, text + ";   ");
        check.due("interval(), ends too early at 120", x.interval(), -121);
    }

    private static void intervalChangesNothing() {
        ComposedInterval x = new ComposedInterval();
        x.person(Check.DIVA, 2);
        x.minutes(3);
        Check.feed(x, "guest 1;score 0 4;bell 0 4;rival 2 quick 9");
        check.due("interval()", x.interval(), -42);
        check.due("count(0)", x.count(0), 1);
        check.due("score(0, 1)", x.score(0, 1), 0);
        check.due("bell(0, 1)", x.bell(0, 1), 10);
        check.due("count(1)", x.count(1), 0);
        check.due("now(0)", x.now(0), 3);
        check.due("of(0, 3)", x.of(0, 3), 3);
        // A text keeps what has been played.
        Check.feed(x, "guest 1");
        x.interval();
        check.due("of(0, 3)", x.of(0, 3), 3);
        check.due("now(0)", x.now(0), 3);
    }
}
