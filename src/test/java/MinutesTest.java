/** Promises 11 to 16: minutes. */
public final class MinutesTest {
    private static final Check check = new Check();

    public static void main(String[] args) {
        minutesWalk();
        minutesByNumbers();
        minutesKinds();
        minutesHold();
        minutesEdges();
        on();
        harmony();
        comes();
        plays();
        meet();
        check.end();
    }

    private static void state(String when, ComposedInterval x, int p, int spot, int played, int spoilt) {
        check.due("SPOT of " + p + " " + when, x.of(p, 1), spot);
        check.due("PLAYED of " + p + " " + when, x.of(p, 3), played);
        check.due("SPOILT of " + p + " " + when, x.of(p, 4), spoilt);
    }

    private static void minutesWalk() {
        check.promise(11, "minutes");
        ComposedInterval x = new ComposedInterval();
        x.person(Check.GUEST, 3);
        check.due("minutes(1)", x.minutes(1), 0);
        state("after 1", x, 0, 2, 0, 1);
        check.due("minutes(2)", x.minutes(2), 1);
        state("after 3", x, 0, 0, 1, 2);
        check.due("now(0)", x.now(0), 3);
        // Quick ones walk no farther than where they are due.
        x = new ComposedInterval();
        x.person(Check.GUEST, 3);
        x.set(0, 2, 4);
        check.due("minutes(1), quick", x.minutes(1), 1);
        state("quick", x, 0, 0, 1, 0);
        // A bell at minute 0 sends one back that still hears it.
        x = new ComposedInterval();
        x.score(0, 9);
        x.bell(1, 1);
        x.person(Check.GUEST, 4);
        x.person(Check.GUEST, 4);
        x.set(1, 3, 10);
        check.due("minutes(2), a bell", x.minutes(2), 0);
        state("deceived", x, 0, 4, 0, 2);
        state("not deceived", x, 1, 6, 10, 2);
        // One deceived that is at 0 is in time.
        x = new ComposedInterval();
        x.score(0, 9);
        x.bell(1, 0);
        x.person(Check.SINGER, 1);
        check.due("minutes(1), a bell", x.minutes(1), 1);
        state("deceived to 0", x, 0, 0, 1, 0);
    }

    private static void minutesByNumbers() {
        // The enemy walks first and is barred; then the guest comes where it stands.
        ComposedInterval x = new ComposedInterval();
        x.person(Check.ENEMY, 5);
        x.person(Check.GUEST, 6);
        x.minutes(1);
        state("barred", x, 0, 5, 0, 2);
        state("walking", x, 1, 5, 0, 1);
        x.minutes(1);
        state("free again", x, 0, 6, 0, 4);
        // The guest walks first: nobody is before the enemy then.
        x = new ComposedInterval();
        x.person(Check.GUEST, 6);
        x.person(Check.ENEMY, 5);
        x.minutes(1);
        state("not barred", x, 1, 6, 0, 2);
        // Only the next spot bars: a quick one walks over who stands farther on.
        x = new ComposedInterval();
        x.person(Check.ENEMY, 5);
        x.set(0, 2, 4);
        x.person(Check.SINGER, 7);
        x.minutes(1);
        state("over one", x, 0, 9, 0, 2);
        // Two enemies face to face stand for the whole quarter.
        x = new ComposedInterval();
        x.score(0, 0);
        x.person(Check.ENEMY, 5);
        x.person(Check.ENEMY, 6);
        x.minutes(1);
        state("behind another", x, 0, 5, 0, 2);
        state("before another", x, 1, 7, 0, 2);
    }

    private static void minutesKinds() {
        // A singer goes by 1 however quick, and is never spoilt.
        ComposedInterval x = new ComposedInterval();
        x.person(Check.SINGER, 5);
        x.set(0, 2, 4);
        x.minutes(2);
        state("singer", x, 0, 3, 0, 0);
        // Late behind 11 goes back towards 0, twice as quick; else a spot a minute, in time.
        x = new ComposedInterval();
        x.person(Check.LATE, 11);
        check.due("minutes(1), late at 11", x.minutes(1), 0);
        state("late", x, 0, 9, 0, 5);
        check.due("minutes(2), late at 9", x.minutes(2), 1);
        state("late", x, 0, 11, 2, 5);
        x.set(0, 2, 4);
        x.minutes(1);
        state("late, quick", x, 0, 3, 2, 10);
        x.minutes(1);
        state("late, quick", x, 0, 4, 3, 10);
        // A diva goes by 1 and QUICK, and to 5 in the last minute.
        x = new ComposedInterval();
        x.person(Check.DIVA, 11);
        x.set(0, 2, 2);
        x.minutes(3);
        state("diva", x, 0, 2, 0, 9);
        x.minutes(4);
        state("diva", x, 0, 0, 4, 9);
        check.due("minutes(1), a diva's last", x.minutes(1), 0);
        state("diva", x, 0, 3, 4, 12);
        x.minutes(1);
        state("diva in quarter 1", x, 0, 6, 4, 15);
        // A rival spoils 4, and is due one before an enemy.
        x = new ComposedInterval();
        x.person(Check.RIVAL, 8);
        x.minutes(1);
        state("rival", x, 0, 9, 0, 4);
        check.due("minutes(1), rival", x.minutes(1), 1);
        state("rival", x, 0, 10, 1, 4);
        // A rival is deceived by bell 0, not by bell 2.
        x.bell(0, 2);
        x.minutes(1);
        state("rival and bell 0", x, 0, 9, 1, 8);
        x.bell(2, 3);
        x.minutes(1);
        state("rival and bell 2", x, 0, 10, 2, 8);
    }

    private static void minutesHold() {
        ComposedInterval x = new ComposedInterval();
        x.person(Check.GUEST, 0);
        x.person(Check.RIVAL, 0);
        x.set(0, 3, 9998);
        x.set(1, 4, 9997);
        x.minutes(1);
        state("held", x, 0, 0, 9999, 0);
        state("held", x, 1, 1, 0, 9999);
        check.due("minutes(1), held", x.minutes(1), 1);
        state("held", x, 0, 0, 9999, 0);
        state("held", x, 1, 2, 0, 9999);
    }

    private static void minutesEdges() {
        ComposedInterval x = new ComposedInterval();
        check.due("minutes(0)", x.minutes(0), Check.BEYOND);
        check.due("minutes(201)", x.minutes(201), Check.BEYOND);
        check.due("minutes(-1)", x.minutes(-1), Check.BEYOND);
        check.due("minutes(MAX)", x.minutes(Integer.MAX_VALUE), Check.BEYOND);
        // Some 500 calls lead to the last minute: not many are left of an object's 512.
        x = new ComposedInterval();
        x.person(Check.GUEST, 0);
        Check.pass(x, 99800);
        check.due("minutes(200) to 100000", x.minutes(200), Check.STATE);
        check.due("now(0)", x.now(0), 99800);
        check.due("minutes(199) is no finding", x.minutes(199) >= 0 ? 1 : 0, 1);
        check.due("now(0)", x.now(0), 99999);
        // 99999 is 15 in its round: quarter 1.
        check.due("now(1)", x.now(1), 1);
        check.due("minutes(1) to 100000", x.minutes(1), Check.STATE);
        check.due("status(4)", x.status(4), 2);
        // Ahead goes on behind the last minute: quarter 2 tells 10.
        x.set(0, 1, 9);
        x.set(0, 2, 4);
        check.due("on(0, 2, 0)", x.on(0, 2, 0), 9);
        check.due("on(0, 3, 0)", x.on(0, 3, 0), 10);
    }

    /** Six kinds, some quick, in a foyer that isn't as at first. */
    static ComposedInterval crowd(int turn) {
        ComposedInterval x = new ComposedInterval();
        x.score(2, turn % 12);
        x.score(4, (turn * 7 + 3) % 12);
        x.bell(1, (turn * 5) % 48);
        for (int p = 0; p < 8; p++) {
            x.person((p + turn) % 6, (p * 5 + turn * 3) % 12);
            x.set(p, 2, 1 + (p + turn) % 4);
            x.set(p, 3, (p * 3 + turn) % 14);
        }
        Check.pass(x, 1 + turn * 11);
        return x;
    }

    private static void on() {
        check.promise(12, "on");
        for (int turn = 0; turn < 6; turn++) {
            ComposedInterval x = crowd(turn);
            ComposedInterval y = crowd(turn);
            for (int n = 0; n <= 300; n += 3) {
                int p = n % 8;
                check.due("on(p, " + n + ", 0)", x.on(p, n, 0), y.of(p, 1));
                if (n % 30 == 0) {
                    check.due("on(p, " + n + ", 1)", x.on(p, n, 1), y.of(p, 3));
                    check.due("on(p, " + n + ", 2)", x.on(p, n, 2), y.of(p, 4));
                }
                y.minutes(3);
            }
            check.due("now(0) is as it was", x.now(0), 1 + turn * 11);
        }
        ComposedInterval x = crowd(0);
        int[][] beyond = {{8, 0, 0}, {-1, 0, 0}, {0, -1, 0}, {0, 301, 0}, {0, 0, -1}, {0, 0, 3}};
        for (int[] b : beyond) {
            check.due("on(" + b[0] + ", " + b[1] + ", " + b[2] + ")", x.on(b[0], b[1], b[2]), Check.BEYOND);
        }
    }

    private static void harmony() {
        check.promise(13, "harmony");
        ComposedInterval x = new ComposedInterval();
        check.due("harmony(300), nobody", x.harmony(300), 0);
        x.person(Check.GUEST, 2);
        x.set(0, 4, 5);
        check.due("harmony(0)", x.harmony(0), -5);
        check.due("harmony(1)", x.harmony(1), -6);
        check.due("harmony(2)", x.harmony(2), -5);
        check.due("harmony(8)", x.harmony(8), 1);
        check.due("harmony(-1)", x.harmony(-1), Check.BEYOND);
        check.due("harmony(301)", x.harmony(301), Check.BEYOND);
        x = crowd(3);
        ComposedInterval y = crowd(3);
        for (int n = 0; n <= 300; n += 2) {
            check.due("harmony(" + n + ")", x.harmony(n), y.now(5) - 100000);
            y.minutes(2);
        }
    }

    private static void comes() {
        check.promise(14, "comes");
        ComposedInterval x = new ComposedInterval();
        for (int q = 0; q < 6; q++) {
            x.score(q, 0);
        }
        x.person(Check.GUEST, 3);
        check.due("comes(0, 3)", x.comes(0, 3), 0);
        check.due("comes(0, 0)", x.comes(0, 0), 3);
        check.due("comes(0, 4)", x.comes(0, 4), Check.NONE);
        check.due("comes(0, 12)", x.comes(0, 12), Check.BEYOND);
        check.due("comes(0, -1)", x.comes(0, -1), Check.BEYOND);
        check.due("comes(1, 0)", x.comes(1, 0), Check.BEYOND);
        check.due("comes(-1, 0)", x.comes(-1, 0), Check.BEYOND);
        check.due("now(0)", x.now(0), 0);
        // One that comes to 8 only after more than 300 minutes.
        x = slowToComeTo8();
        int first = 0;
        for (; first < 400 && x.of(0, 1) != 8; first++) {
            x.minutes(1);
        }
        check.due("it takes more than 300", first > 300 && first < 400 ? 1 : 0, 1);
        x = slowToComeTo8();
        check.due("comes(0, 8)", x.comes(0, 8), Check.NONE);
        Check.pass(x, first - 301);
        check.due("comes(0, 8) in 301", x.comes(0, 8), Check.NONE);
        x.minutes(1);
        check.due("comes(0, 8) in 300", x.comes(0, 8), 300);
    }

    private static ComposedInterval arranged(int[] score, int[] bells, int[][] people) {
        ComposedInterval x = new ComposedInterval();
        for (int q = 0; q < 6; q++) {
            x.score(q, score[q]);
        }
        for (int b = 0; b < 3; b++) {
            x.bell(b, bells[b]);
        }
        for (int p = 0; p < people.length; p++) {
            x.person(people[p][0], people[p][1]);
            x.set(p, 2, people[p][2]);
            x.set(p, 3, people[p][3]);
        }
        return x;
    }

    private static ComposedInterval slowToComeTo8() {
        return arranged(new int[] {11, 4, 11, 2, 11, 11}, new int[] {12, 30, 31},
            new int[][] {{5, 5, 1, 0}, {5, 0, 1, 0}, {1, 10, 2, 0}, {2, 4, 1, 0}});
    }

    private static void plays() {
        check.promise(15, "plays");
        ComposedInterval x = new ComposedInterval();
        x.person(Check.GUEST, 0);
        x.person(Check.GUEST, 5);
        check.due("plays(0)", x.plays(0), 1);
        check.due("plays(1)", x.plays(1), 5);
        x.set(0, 3, 9999);
        check.due("plays(0), held", x.plays(0), Check.NONE);
        x.set(0, 3, 9998);
        check.due("plays(0), nearly held", x.plays(0), 1);
        check.due("plays(2)", x.plays(2), Check.BEYOND);
        check.due("plays(-1)", x.plays(-1), Check.BEYOND);
        check.due("now(0)", x.now(0), 0);
        // One that is in time only after more than 300 minutes.
        x = slowToPlay();
        int first = 0;
        for (; first < 400 && x.of(0, 3) == 2; first++) {
            x.minutes(1);
        }
        check.due("it takes more than 300", first > 300 && first < 400 ? 1 : 0, 1);
        x = slowToPlay();
        check.due("plays(0)", x.plays(0), Check.NONE);
        Check.pass(x, first - 301);
        check.due("plays(0) in 301", x.plays(0), Check.NONE);
        x.minutes(1);
        check.due("plays(0) in 300", x.plays(0), 300);
    }

    private static ComposedInterval slowToPlay() {
        return arranged(new int[] {0, 11, 0, 6, 0, 11}, new int[] {40, 45, 36},
            new int[][] {{1, 4, 1, 2}, {1, 9, 3, 6}, {0, 7, 3, 4}, {3, 0, 3, 5}, {4, 7, 1, 0}});
    }

    private static void meet() {
        check.promise(16, "meet");
        ComposedInterval x = new ComposedInterval();
        x.person(Check.GUEST, 3);
        x.person(Check.SINGER, 3);
        x.person(Check.GUEST, 6);
        check.due("meet(0, 1)", x.meet(0, 1), 0);
        check.due("meet(0, 2)", x.meet(0, 2), 6);
        check.due("meet(2, 0)", x.meet(2, 0), 6);
        check.due("meet(1, 1)", x.meet(1, 1), Check.BEYOND);
        check.due("meet(0, 3)", x.meet(0, 3), Check.BEYOND);
        check.due("meet(3, 0)", x.meet(3, 0), Check.BEYOND);
        check.due("meet(-1, 0)", x.meet(-1, 0), Check.BEYOND);
        check.due("meet(0, -1)", x.meet(0, -1), Check.BEYOND);
        check.due("now(0)", x.now(0), 0);
        // Two that meet only after more than 300 minutes.
        x = slowToMeet();
        int first = 0;
        for (; first < 400 && x.of(0, 1) != x.of(1, 1); first++) {
            x.minutes(1);
        }
        check.due("it takes more than 300", first > 300 && first < 400 ? 1 : 0, 1);
        x = slowToMeet();
        check.due("meet(0, 1)", x.meet(0, 1), Check.NONE);
        Check.pass(x, first - 301);
        check.due("meet(0, 1) in 301", x.meet(0, 1), Check.NONE);
        x.minutes(1);
        check.due("meet(0, 1) in 300", x.meet(0, 1), 300);
    }

    private static ComposedInterval slowToMeet() {
        return arranged(new int[] {0, 11, 8, 0, 2, 0}, new int[] {23, 33, 9},
            new int[][] {{1, 7, 2, 0}, {5, 11, 1, 0}, {5, 8, 2, 0}, {3, 10, 2, 0}});
    }
}
