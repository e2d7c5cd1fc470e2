/** Promises 32 to 36: images, count and status. */
public final class ImagesTest {
    private static final Check check = new Check();

    public static void main(String[] args) {
        imageAndUndo();
        undoTakesTheLatest();
        tear();
        count();
        status();
        check.end();
    }

    private static void imageAndUndo() {
        check.promise(32, "image");
        ComposedInterval x = new ComposedInterval();
        x.person(Check.RIVAL, 4);
        x.set(0, 2, 3);
        x.set(0, 3, 40);
        x.set(0, 4, 50);
        x.score(1, 9);
        x.bell(2, 7);
        x.minutes(1);
        int spot = x.of(0, 1);
        int spoilt = x.of(0, 4);
        check.due("image()", x.image(), 1);
        x.turn(0, Check.LATE);
        x.set(0, 1, 0);
        x.set(0, 2, 1);
        x.set(0, 3, 1);
        x.set(0, 4, 1);
        x.score(1, 0);
        x.bell(2, 0);
        x.person(Check.GUEST, 3);
        x.person(Check.GUEST, 3);
        x.minutes(77);
        x.sheet(0, 8, 2);
        x.write(0, 1, 6);
        x.feed(0x20, 1);
        x.who(99);
        check.promise(33, "undo");
        check.due("undo()", x.undo(), 1);
        check.due("count(0)", x.count(0), 1);
        check.due("now(0)", x.now(0), 1);
        check.due("of(0, 0)", x.of(0, 0), Check.RIVAL);
        check.due("of(0, 1)", x.of(0, 1), spot);
        check.due("of(0, 2)", x.of(0, 2), 3);
        check.due("of(0, 3)", x.of(0, 3), 40);
        check.due("of(0, 4)", x.of(0, 4), spoilt);
        check.due("of(1, 0)", x.of(1, 0), Check.BEYOND);
        check.due("score(1, 0)", x.score(1, 0), 9);
        check.due("bell(2, 0)", x.bell(2, 0), 7);
        // The tape, the sheets and the status are not of the image.
        check.due("count(1)", x.count(1), 1);
        check.due("write(0, 1, 0)", x.write(0, 1, 0), 6);
        check.due("status(0)", x.status(0), 2);
        // It stays, and what comes after doesn't change it.
        check.due("undo() again", x.undo(), 1);
        check.due("score(1, 0)", x.score(1, 0), 9);
        x.set(0, 1, 2);
        x.undo();
        check.due("of(0, 1)", x.of(0, 1), spot);
    }

    private static void undoTakesTheLatest() {
        ComposedInterval x = new ComposedInterval();
        check.due("undo(), nothing kept", x.undo(), Check.NONE);
        check.due("image(), nobody there", x.image(), 1);
        x.person(Check.GUEST, 1);
        check.due("undo()", x.undo(), 0);
        x.person(Check.GUEST, 1);
        x.person(Check.GUEST, 2);
        x.image();
        x.person(Check.GUEST, 3);
        check.due("undo()", x.undo(), 2);
        check.due("undo()", x.undo(), 2);
        check.due("of(1, 1)", x.of(1, 1), 2);
        // Ahead and text leave the image alone.
        x.begin(0, 50);
        x.deceive(0, 50);
        Check.feed(x, "guest 4;score 0 3");
        x.interval();
        check.due("count(0)", x.count(0), 3);
        check.due("undo()", x.undo(), 2);
        check.due("now(2)", x.now(2), 0);
    }

    private static void tear() {
        check.promise(34, "tear");
        ComposedInterval x = new ComposedInterval();
        check.due("tear()", x.tear(), 0);
        x.image();
        x.image();
        check.due("tear()", x.tear(), 1);
        check.due("tear()", x.tear(), 0);
        check.due("undo()", x.undo(), Check.NONE);
        x.image();
        check.due("undo()", x.undo(), 0);
        check.due("tear()", x.tear(), 1);
    }

    private static void count() {
        check.promise(35, "count");
        ComposedInterval x = new ComposedInterval();
        for (int p = 0; p < 8; p++) {
            x.person(Check.SINGER, p);
            x.set(p, 3, 9000 + p);
            x.set(p, 4, 9999);
        }
        x.feed(0, 3);
        check.due("count(0)", x.count(0), 8);
        check.due("count(1)", x.count(1), 3);
        check.due("count(2)", x.count(2), 72028);
        check.due("count(3)", x.count(3), 79992);
        check.due("now(5)", x.now(5), 92036);
        check.due("count(-1)", x.count(-1), Check.BEYOND);
        check.due("count(4)", x.count(4), Check.BEYOND);
    }

    private static void status() {
        check.promise(36, "status");
        ComposedInterval x = new ComposedInterval();
        x.image();
        x.who(12);
        x.who(-1);
        for (int p = 0; p < 9; p++) {
            x.person(Check.GUEST, 0);
        }
        x.as(0, Check.DIVA);
        x.as(0, Check.DIVA);
        x.as(0, Check.DIVA);
        x.sheet(0, 8, -1);
        x.write(1, 0, 0);
        x.write(1, 0, 0);
        x.set(0, 3, 9999);
        x.plays(0);
        // STATE is far off: MinutesTest counts it.
        int[] due = {2, 1, 3, 1, 0, 2, 1};
        for (int i = 0; i < 7; i++) {
            check.due("status(" + i + ")", x.status(i), due[i]);
        }
        check.due("status(-1)", x.status(-1), 10);
        check.due("status(7)", x.status(7), Check.BEYOND);
        check.due("status(0)", x.status(0), 3);
        check.due("status(-2)", x.status(-2), Check.BEYOND);
        check.due("status(0)", x.status(0), 4);
    }
}
