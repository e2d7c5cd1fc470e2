/** Promises 1 to 10: the score and the people. */
public final class ScoreAndPeopleTest {
    private static final Check check = new Check();

    public static void main(String[] args) {
        newObject();
        score();
        bell();
        now();
        who();
        person();
        ofPlain();
        ofDue();
        ofHears();
        ofWalks();
        set();
        turn();
        as();
        check.end();
    }

    private static void newObject() {
        check.promise(1, "a new object");
        ComposedInterval x = new ComposedInterval();
        check.due("count(0)", x.count(0), 0);
        check.due("count(1)", x.count(1), 0);
        check.due("count(2)", x.count(2), 0);
        check.due("count(3)", x.count(3), 0);
        check.due("now(0)", x.now(0), 0);
        check.due("wipe()", x.wipe(), 0);
        check.due("tear()", x.tear(), 0);
        check.due("status(-1)", x.status(-1), 0);
        check.due("undo()", x.undo(), Check.NONE);
        for (int s = 0; s < 4; s++) {
            check.due("write(" + s + ", 0, 0)", x.write(s, 0, 0), Check.MISSING);
        }
    }

    private static void score() {
        check.promise(2, "score");
        ComposedInterval x = new ComposedInterval();
        int[] first = {0, 5, 10, 3, 8, 1};
        for (int q = 0; q < 6; q++) {
            check.due("score(" + q + ", 11)", x.score(q, 11), first[q]);
            check.due("score(" + q + ", 0)", x.score(q, 0), 11);
        }
        int[][] beyond = {{-1, 0}, {6, 0}, {0, -1}, {0, 12}, {Integer.MIN_VALUE, 0}, {0, Integer.MAX_VALUE}};
        for (int[] b : beyond) {
            check.due("score(" + b[0] + ", " + b[1] + ")", x.score(b[0], b[1]), Check.BEYOND);
        }
        check.due("score(0, 3) after findings", x.score(0, 3), 0);
        check.due("now(2)", x.now(2), 3);
    }

    private static void bell() {
        check.promise(3, "bell");
        ComposedInterval x = new ComposedInterval();
        for (int b = 0; b < 3; b++) {
            check.due("bell(" + b + ", 47)", x.bell(b, 47), 10 * (b + 1));
            check.due("bell(" + b + ", 0)", x.bell(b, 0), 47);
        }
        int[][] beyond = {{-1, 0}, {3, 0}, {0, -1}, {0, 48}, {Integer.MAX_VALUE, 0}, {0, Integer.MIN_VALUE}};
        for (int[] b : beyond) {
            check.due("bell(" + b[0] + ", " + b[1] + ")", x.bell(b[0], b[1]), Check.BEYOND);
        }
        check.due("now(3)", x.now(3), 2);
    }

    private static void now() {
        check.promise(4, "now");
        ComposedInterval x = new ComposedInterval();
        int[] spots = {0, 5, 10, 3, 8, 1};
        for (int m = 0; m < 100; m++) {
            check.due("now(0)", x.now(0), m);
            check.due("now(1) in " + m, x.now(1), m / 8 % 6);
            check.due("now(2) in " + m, x.now(2), spots[m / 8 % 6]);
            int rest = m % 48;
            int rings = rest == 10 ? 0 : rest == 20 ? 1 : rest == 30 ? 2 : -1;
            check.due("now(3) in " + m, x.now(3), rings);
            x.minutes(1);
        }
        x = new ComposedInterval();
        x.bell(0, 0);
        check.due("now(3), bell 0 alone", x.now(3), 0);
        x.bell(1, 0);
        check.due("now(3), bells 0 and 1", x.now(3), 1);
        x.person(Check.SINGER, 0);
        x.person(Check.ENEMY, 11);
        x.person(Check.GUEST, 0);
        check.due("now(4), all deceived", x.now(4), 5);
        x.bell(0, 9);
        x.bell(1, 9);
        check.due("now(4), none deceived", x.now(4), 7);
        x.set(0, 1, 1);
        check.due("now(4), not the first", x.now(4), 6);
        check.due("now(5)", x.now(5), 100000);
        x.set(0, 3, 7);
        x.set(1, 4, 30);
        check.due("now(5)", x.now(5), 99977);
        check.due("now(-1)", x.now(-1), Check.BEYOND);
        check.due("now(6)", x.now(6), Check.BEYOND);
    }

    private static void who() {
        check.promise(5, "who");
        ComposedInterval x = new ComposedInterval();
        check.due("who(0), nobody", x.who(0), 0);
        x.person(Check.GUEST, 11);
        x.person(Check.LATE, 4);
        x.person(Check.DIVA, 11);
        check.due("who(11)", x.who(11), 5);
        check.due("who(4)", x.who(4), 2);
        check.due("who(0)", x.who(0), 0);
        check.due("who(-1)", x.who(-1), Check.BEYOND);
        check.due("who(12)", x.who(12), Check.BEYOND);
    }

    private static void person() {
        check.promise(6, "person");
        ComposedInterval x = new ComposedInterval();
        check.due("person(-1, 0)", x.person(-1, 0), Check.BEYOND);
        check.due("person(6, 0)", x.person(6, 0), Check.BEYOND);
        check.due("person(0, -1)", x.person(0, -1), Check.BEYOND);
        check.due("person(0, 12)", x.person(0, 12), Check.BEYOND);
        for (int i = 0; i < 8; i++) {
            check.due("person", x.person(i % 6, i + 4), i);
            check.due("of 0", x.of(i, 0), i % 6);
            check.due("of 1", x.of(i, 1), i + 4);
            check.due("of 2", x.of(i, 2), 1);
            check.due("of 3", x.of(i, 3), 0);
            check.due("of 4", x.of(i, 4), 0);
        }
        check.due("person, a 9th", x.person(0, 0), Check.FULL);
        check.due("person(6, 0), a 9th", x.person(6, 0), Check.BEYOND);
        check.due("person(0, 12), a 9th", x.person(0, 12), Check.BEYOND);
        check.due("count(0)", x.count(0), 8);
        // An undone one leaves nothing behind for the next of its number.
        x = new ComposedInterval();
        x.image();
        x.person(Check.GUEST, 3);
        x.set(0, 2, 4);
        x.set(0, 3, 50);
        x.set(0, 4, 60);
        x.undo();
        x.person(Check.GUEST, 5);
        check.due("of(0, 2) of a new one", x.of(0, 2), 1);
        check.due("of(0, 3) of a new one", x.of(0, 3), 0);
        check.due("of(0, 4) of a new one", x.of(0, 4), 0);
    }

    private static ComposedInterval allKinds(int spot) {
        ComposedInterval x = new ComposedInterval();
        for (int k = 0; k < 6; k++) {
            x.person(k, spot);
        }
        return x;
    }

    private static void ofPlain() {
        check.promise(7, "of");
        ComposedInterval x = allKinds(6);
        int[] spoils = {1, 2, 0, 5, 3, 4};
        for (int k = 0; k < 6; k++) {
            check.due("of(" + k + ", 0)", x.of(k, 0), k);
            check.due("of(" + k + ", 1)", x.of(k, 1), 6);
            check.due("of(" + k + ", 8)", x.of(k, 8), spoils[k]);
        }
        check.due("of(-1, 0)", x.of(-1, 0), Check.BEYOND);
        check.due("of(6, 0)", x.of(6, 0), Check.BEYOND);
        check.due("of(0, -1)", x.of(0, -1), Check.BEYOND);
        check.due("of(0, 9)", x.of(0, 9), Check.BEYOND);
    }

    private static void dueRow(ComposedInterval x, String when, int... dues) {
        for (int p = 0; p < dues.length; p++) {
            check.due("of(" + p + ", 5) " + when, x.of(p, 5), dues[p]);
        }
    }

    private static void ofDue() {
        ComposedInterval x = allKinds(6);
        dueRow(x, "in quarter 0, score 0", 0, 11, 0, 7, 0, 10);
        x.score(0, 11);
        dueRow(x, "in quarter 0, score 11", 11, 0, 11, 7, 11, 0);
        x.score(0, 10);
        dueRow(x, "in quarter 0, score 10", 10, 1, 10, 7, 10, 0);
        x.set(3, 1, 11);
        dueRow(x, "late at 11", 10, 1, 10, 0, 10, 0);
        x.set(3, 1, 10);
        dueRow(x, "late at 10", 10, 1, 10, 11, 10, 0);
        Check.pass(x, 7);
        x.set(3, 1, 0);
        dueRow(x, "in the last minute of quarter 0", 10, 1, 10, 1, 5, 0);
        x.minutes(1);
        x.set(3, 1, 0);
        dueRow(x, "in quarter 1", 5, 6, 11, 1, 11, 5);
        Check.pass(x, 7);
        x.set(3, 1, 0);
        dueRow(x, "in the last minute of quarter 1", 5, 6, 11, 1, 5, 5);
    }

    private static void hearsRow(ComposedInterval x, String when, int... hears) {
        for (int p = 0; p < hears.length; p++) {
            check.due("of(" + p + ", 6) " + when, x.of(p, 6), hears[p]);
        }
    }

    private static void ofHears() {
        ComposedInterval x = allKinds(6);
        hearsRow(x, "without a bell", 0, 0, 0, 0, 0, 0);
        x.bell(0, 0);
        hearsRow(x, "with bell 0", 1, 1, 1, 0, 0, 1);
        dueRow(x, "with bell 0", 0, 0, 0, 7, 0, 0);
        x.score(0, 4);
        dueRow(x, "with bell 0 and score 4", 0, 0, 0, 7, 4, 0);
        x.bell(1, 0);
        hearsRow(x, "with bells 0 and 1", 1, 1, 1, 0, 0, 1);
        x.bell(2, 0);
        hearsRow(x, "with all bells", 1, 1, 1, 0, 0, 0);
        dueRow(x, "with all bells", 0, 0, 0, 7, 4, 6);
        for (int p = 0; p < 6; p++) {
            x.set(p, 3, 9);
        }
        x.bell(2, 1);
        hearsRow(x, "with PLAYED 9", 1, 1, 1, 0, 0, 1);
        for (int p = 0; p < 6; p++) {
            x.set(p, 3, 10);
        }
        hearsRow(x, "with PLAYED 10", 0, 0, 1, 0, 0, 0);
        dueRow(x, "with PLAYED 10", 4, 7, 0, 7, 4, 6);
    }

    private static void walksRow(ComposedInterval x, String when, int... walks) {
        for (int p = 0; p < walks.length; p++) {
            check.due("of(" + p + ", 7) " + when, x.of(p, 7), walks[p]);
        }
    }

    private static void ofWalks() {
        ComposedInterval x = allKinds(6);
        walksRow(x, "with QUICK 1", 1, 1, 1, 2, 2, 1);
        for (int p = 0; p < 6; p++) {
            x.set(p, 2, 4);
        }
        walksRow(x, "with QUICK 4", 4, 4, 1, 8, 5, 4);
        // The enemies are due at 11 and 10: who is at 7 bars both, who is at 5 none.
        x.set(0, 1, 7);
        walksRow(x, "with one ahead", 4, 0, 1, 8, 5, 0);
        x.set(0, 1, 5);
        walksRow(x, "with one behind", 4, 4, 1, 8, 5, 4);
        x.set(0, 1, 8);
        walksRow(x, "with one two ahead", 4, 4, 1, 8, 5, 4);
        // Deceived they go the other way.
        x.bell(0, 0);
        x.set(0, 1, 7);
        walksRow(x, "with one ahead, deceived", 4, 4, 1, 8, 5, 4);
        x.set(0, 1, 5);
        walksRow(x, "with one behind, deceived", 4, 0, 1, 8, 5, 0);
        // One that is where it is due has no way that could be barred.
        x.bell(0, 9);
        x.set(1, 1, 11);
        x.set(5, 1, 10);
        walksRow(x, "where they are due", 4, 4, 1, 8, 5, 4);
        x.set(5, 1, 9);
        x.set(0, 1, 10);
        walksRow(x, "the rival barred", 4, 4, 1, 8, 5, 0);
    }

    private static void set() {
        check.promise(8, "set");
        ComposedInterval x = new ComposedInterval();
        x.person(Check.GUEST, 3);
        int[][] ranges = {{1, 0, 11, 3}, {2, 1, 4, 1}, {3, 0, 9999, 0}, {4, 0, 9999, 0}};
        for (int[] r : ranges) {
            check.due("set(0, " + r[0] + ", below)", x.set(0, r[0], r[1] - 1), Check.BEYOND);
            check.due("set(0, " + r[0] + ", above)", x.set(0, r[0], r[2] + 1), Check.BEYOND);
            check.due("set(0, " + r[0] + ", most)", x.set(0, r[0], r[2]), r[3]);
            check.due("of(0, " + r[0] + ")", x.of(0, r[0]), r[2]);
            check.due("set(0, " + r[0] + ", least)", x.set(0, r[0], r[1]), r[2]);
            check.due("of(0, " + r[0] + ")", x.of(0, r[0]), r[1]);
        }
        check.due("set(0, 0, 1)", x.set(0, 0, 1), Check.BEYOND);
        check.due("set(0, 5, 1)", x.set(0, 5, 1), Check.BEYOND);
        check.due("set(1, 1, 1)", x.set(1, 1, 1), Check.BEYOND);
        check.due("set(-1, 1, 1)", x.set(-1, 1, 1), Check.BEYOND);
    }

    private static void turn() {
        check.promise(9, "turn");
        ComposedInterval x = new ComposedInterval();
        x.person(Check.GUEST, 3);
        check.due("turn(0, 5)", x.turn(0, 5), 0);
        check.due("turn(0, 4)", x.turn(0, 4), 5);
        check.due("of(0, 0)", x.of(0, 0), 4);
        check.due("turn(0, 4)", x.turn(0, 4), 4);
        check.due("turn(0, 6)", x.turn(0, 6), Check.BEYOND);
        check.due("turn(0, -1)", x.turn(0, -1), Check.BEYOND);
        check.due("turn(1, 0)", x.turn(1, 0), Check.BEYOND);
        check.due("turn(-1, 0)", x.turn(-1, 0), Check.BEYOND);
        check.due("of(0, 0)", x.of(0, 0), 4);
        check.due("of(0, 1)", x.of(0, 1), 3);
    }

    private static void as() {
        check.promise(10, "as");
        boolean[][] isOf = new boolean[6][6];
        for (int k = 0; k < 6; k++) {
            isOf[k][k] = true;
            isOf[k][Check.GUEST] = true;
        }
        isOf[Check.DIVA][Check.SINGER] = true;
        isOf[Check.RIVAL][Check.ENEMY] = true;
        ComposedInterval x = allKinds(0);
        for (int p = 0; p < 6; p++) {
            x.set(p, 3, 100 + p);
            for (int k = 0; k < 6; k++) {
                check.due("as(" + p + ", " + k + ")", x.as(p, k), isOf[p][k] ? 100 + p : Check.KIND);
            }
        }
        check.due("as(6, 0)", x.as(6, 0), Check.BEYOND);
        check.due("as(-1, 0)", x.as(-1, 0), Check.BEYOND);
        check.due("as(0, 6)", x.as(0, 6), Check.BEYOND);
        check.due("as(0, -1)", x.as(0, -1), Check.BEYOND);
    }
}
