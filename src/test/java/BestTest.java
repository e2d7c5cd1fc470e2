/** Promises 17 to 22: what is best. Each is tried out by changing, letting minutes go, and undoing. */
public final class BestTest {
    private static final Check check = new Check();
    private static final int[] SPANS = {1, 7, 30, 60};
    private static final int[] LONG_SPANS = {1, 9, 48, 100};

    public static void main(String[] args) {
        begin();
        kind();
        quick();
        compose();
        deceive();
        worst();
        check.end();
    }

    private static ComposedInterval crowd(int turn) {
        ComposedInterval x = MinutesTest.crowd(turn);
        x.image();
        return x;
    }

    private static void begin() {
        check.promise(17, "begin");
        ComposedInterval x = new ComposedInterval();
        x.score(0, 6);
        x.person(Check.GUEST, 0);
        check.due("begin(0, 1)", x.begin(0, 1), 5);
        check.due("begin(0, 2)", x.begin(0, 2), 5);
        x.set(0, 2, 2);
        check.due("begin(0, 1), QUICK 2", x.begin(0, 1), 4);
        x.set(0, 3, 9999);
        check.due("begin(0, 1), held", x.begin(0, 1), 0);
        check.due("of(0, 1)", x.of(0, 1), 0);
        check.due("begin(1, 1)", x.begin(1, 1), Check.BEYOND);
        check.due("begin(-1, 1)", x.begin(-1, 1), Check.BEYOND);
        check.due("begin(0, 0)", x.begin(0, 0), Check.BEYOND);
        check.due("begin(0, 101)", x.begin(0, 101), Check.BEYOND);
        for (int turn = 0; turn < 8; turn++) {
            for (int n : LONG_SPANS) {
                x = crowd(turn);
                int best = -1;
                int most = -1;
                for (int spot = 0; spot < 12; spot++) {
                    x.set(turn, 1, spot);
                    x.minutes(n);
                    if (x.of(turn, 3) > most) {
                        most = x.of(turn, 3);
                        best = spot;
                    }
                    x.undo();
                }
                check.due("begin(" + turn + ", " + n + ")", x.begin(turn, n), best);
            }
        }
    }

    private static void kind() {
        check.promise(18, "kind");
        ComposedInterval x = new ComposedInterval();
        x.person(Check.LATE, 0);
        check.due("kind(0, 1)", x.kind(0, 1), Check.GUEST);
        x.set(0, 1, 9);
        check.due("kind(0, 1) at 9", x.kind(0, 1), Check.LATE);
        x.set(0, 1, 11);
        check.due("kind(0, 1) at 11", x.kind(0, 1), Check.ENEMY);
        x.set(0, 1, 2);
        x.turn(0, Check.RIVAL);
        x.set(0, 3, 9999);
        check.due("kind(0, 1), held", x.kind(0, 1), Check.GUEST);
        check.due("of(0, 0)", x.of(0, 0), Check.RIVAL);
        check.due("kind(1, 1)", x.kind(1, 1), Check.BEYOND);
        check.due("kind(-1, 1)", x.kind(-1, 1), Check.BEYOND);
        check.due("kind(0, 0)", x.kind(0, 0), Check.BEYOND);
        check.due("kind(0, 101)", x.kind(0, 101), Check.BEYOND);
        for (int turn = 0; turn < 8; turn++) {
            for (int n : LONG_SPANS) {
                x = crowd(turn);
                int best = -1;
                int most = -1;
                for (int kind = 0; kind < 6; kind++) {
                    x.turn(turn, kind);
                    x.minutes(n);
                    if (x.of(turn, 3) > most) {
                        most = x.of(turn, 3);
                        best = kind;
                    }
                    x.undo();
                }
                check.due("kind(" + turn + ", " + n + ")", x.kind(turn, n), best);
            }
        }
    }

    private static void quick() {
        check.promise(19, "quick");
        ComposedInterval x = new ComposedInterval();
        x.person(Check.GUEST, 4);
        x.set(0, 2, 3);
        check.due("quick(0, 4, 0)", x.quick(0, 4, 0), 1);
        check.due("quick(0, 4, 1)", x.quick(0, 4, 1), 1);
        check.due("quick(0, 4, 2)", x.quick(0, 4, 2), 2);
        check.due("quick(0, 4, 3)", x.quick(0, 4, 3), 2);
        check.due("quick(0, 4, 4)", x.quick(0, 4, 4), 4);
        check.due("quick(0, 4, 5)", x.quick(0, 4, 5), Check.NONE);
        check.due("quick(0, 1, 1)", x.quick(0, 1, 1), 4);
        check.due("of(0, 2)", x.of(0, 2), 3);
        x.set(0, 3, 9995);
        check.due("quick(0, 4, 9999), nearly held", x.quick(0, 4, 9999), 4);
        int[][] beyond = {{1, 1, 0}, {-1, 1, 0}, {0, 0, 0}, {0, 101, 0}, {0, 1, -1}, {0, 1, 10000}};
        for (int[] b : beyond) {
            check.due("quick(" + b[0] + ", " + b[1] + ", " + b[2] + ")", x.quick(b[0], b[1], b[2]), Check.BEYOND);
        }
        for (int turn = 0; turn < 8; turn++) {
            for (int n : LONG_SPANS) {
                for (int v = 0; v < 60; v += 3) {
                    x = crowd(turn);
                    int least = Check.NONE;
                    for (int quick = 4; quick >= 1; quick--) {
                        x.set(turn, 2, quick);
                        x.minutes(n);
                        least = x.of(turn, 3) >= v ? quick : least;
                        x.undo();
                    }
                    check.due("quick(" + turn + ", " + n + ", " + v + ")", x.quick(turn, n, v), least);
                }
            }
        }
    }

    private static void compose() {
        check.promise(20, "compose");
        ComposedInterval x = new ComposedInterval();
        check.due("compose(0, 100), nobody", x.compose(0, 100), 0);
        x.person(Check.GUEST, 7);
        x.person(Check.GUEST, 9);
        check.due("compose(0, 1)", x.compose(0, 1), 8);
        check.due("compose(1, 8), quarter 0 goes", x.compose(1, 8), 0);
        check.due("now(2)", x.now(2), 0);
        x.set(0, 4, 9999);
        x.set(1, 4, 9999);
        check.due("compose(0, 1), far below 0", x.compose(0, 1), 8);
        check.due("compose(6, 1)", x.compose(6, 1), Check.BEYOND);
        check.due("compose(-1, 1)", x.compose(-1, 1), Check.BEYOND);
        check.due("compose(0, 0)", x.compose(0, 0), Check.BEYOND);
        check.due("compose(0, 101)", x.compose(0, 101), Check.BEYOND);
        for (int turn = 0; turn < 8; turn++) {
            for (int n : LONG_SPANS) {
                x = crowd(turn);
                int quarter = turn % 6;
                int best = -1;
                int most = 0;
                for (int spot = 0; spot < 12; spot++) {
                    x.score(quarter, spot);
                    x.minutes(n);
                    if (x.now(5) > most) {
                        most = x.now(5);
                        best = spot;
                    }
                    x.undo();
                }
                check.due("compose(" + quarter + ", " + n + ")", x.compose(quarter, n), best);
            }
        }
    }

    private static void deceive() {
        check.promise(21, "deceive");
        ComposedInterval x = new ComposedInterval();
        check.due("deceive(0, 60), nobody", x.deceive(0, 60), 0);
        x.score(0, 5);
        x.person(Check.GUEST, 5);
        Check.pass(x, 2);
        check.due("deceive(0, 3)", x.deceive(0, 3), 2);
        check.due("deceive(2, 1)", x.deceive(2, 1), 2);
        x.set(0, 3, 10);
        check.due("deceive(0, 3), it hears no more", x.deceive(0, 3), 0);
        x.set(0, 3, 9999);
        check.due("deceive(0, 3), far above 0", x.deceive(0, 3), 0);
        check.due("bell(0, 10)", x.bell(0, 10), 10);
        check.due("deceive(3, 1)", x.deceive(3, 1), Check.BEYOND);
        check.due("deceive(-1, 1)", x.deceive(-1, 1), Check.BEYOND);
        check.due("deceive(0, 0)", x.deceive(0, 0), Check.BEYOND);
        check.due("deceive(0, 61)", x.deceive(0, 61), Check.BEYOND);
        for (int turn = 0; turn < 8; turn++) {
            for (int n : SPANS) {
                x = crowd(turn);
                int which = turn % 3;
                int best = -1;
                int least = 1000000;
                for (int minute = 0; minute < 48; minute++) {
                    x.bell(which, minute);
                    x.minutes(n);
                    if (x.now(5) < least) {
                        least = x.now(5);
                        best = minute;
                    }
                    x.undo();
                }
                check.due("deceive(" + which + ", " + n + ")", x.deceive(which, n), best);
            }
        }
    }

    private static void worst() {
        check.promise(22, "worst");
        ComposedInterval x = new ComposedInterval();
        check.due("worst(0), nobody", x.worst(0), Check.NONE);
        check.due("worst(301), nobody", x.worst(301), Check.BEYOND);
        x.person(Check.GUEST, 9);
        x.person(Check.ENEMY, 0);
        x.person(Check.RIVAL, 0);
        check.due("worst(0)", x.worst(0), 0);
        check.due("worst(1)", x.worst(1), 2);
        x.set(0, 4, 3);
        x.set(1, 4, 5);
        check.due("worst(0)", x.worst(0), 1);
        x.set(2, 4, 5);
        check.due("worst(0), two of them", x.worst(0), 1);
        check.due("worst(300) is no finding", x.worst(300) >= 0 ? 1 : 0, 1);
        check.due("worst(-1)", x.worst(-1), Check.BEYOND);
        check.due("worst(301)", x.worst(301), Check.BEYOND);
        for (int turn = 0; turn < 8; turn++) {
            for (int n = 0; n <= 200; n += 25) {
                x = crowd(turn);
                if (n > 0) {
                    x.minutes(n);
                }
                int worst = 0;
                for (int p = 1; p < 8; p++) {
                    worst = x.of(p, 4) > x.of(worst, 4) ? p : worst;
                }
                x.undo();
                check.due("worst(" + n + ")", x.worst(n), worst);
            }
        }
    }
}
