import java.util.ArrayList;
import java.util.List;

/** All that can be seen of an object, in parts: asking for one part spoils the object for the next. */
final class State {
    static final int PARTS = 4;

    private final ComposedInterval x;
    private final List<String> told = new ArrayList<>();

    private State(ComposedInterval x) {
        this.x = x;
    }

    /** Part 0 to 3; one finding (0 to 6: BEYOND to SIZE; -1: none) is taken off the status. */
    static List<String> told(ComposedInterval x, int part, int finding) {
        State state = new State(x);
        switch (part) {
            case 0:
                state.tellStatus(finding);
                state.tellPeople(8);
                break;
            case 1:
                state.tellFoyer();
                state.tell("undo()", x.undo());
                state.tellPeople(4);
                state.tellFoyer();
                break;
            case 2:
                state.tell("interval()", x.interval());
                state.tellPeople(4);
                state.tellFoyer();
                break;
            default:
                state.tellSheets();
                break;
        }
        return state.told;
    }

    private void tell(String call, long answer) {
        told.add(call + " answers " + answer);
    }

    private void tellStatus(int finding) {
        tell("status(-1)", x.status(-1) - (finding < 0 ? 0 : 1));
        for (int which = 0; which < 7; which++) {
            tell("status(" + which + ")", x.status(which) - (finding == which ? 1 : 0));
        }
    }

    private void tellPeople(int mostOfOne) {
        for (int what = 0; what < 4; what++) {
            tell("count(" + what + ")", x.count(what));
        }
        for (int what = 0; what < 6; what++) {
            tell("now(" + what + ")", x.now(what));
        }
        int people = x.count(0);
        for (int p = 0; p < people; p++) {
            for (int what = 0; what <= mostOfOne; what++) {
                tell("of(" + p + ", " + what + ")", x.of(p, what));
            }
        }
    }

    private void tellFoyer() {
        for (int q = 0; q < 6; q++) {
            tell("score(" + q + ", 0)", x.score(q, 0));
        }
        for (int b = 0; b < 3; b++) {
            tell("bell(" + b + ", 0)", x.bell(b, 0));
        }
    }

    /** Each number is asked by writing over it, and what stands then tells its bits. */
    private void tellSheets() {
        for (int s = 0; s < 4; s++) {
            int i = 0;
            int before = x.status(-1);
            for (; i <= 40 && x.status(-1) == before; i++) {
                tell("write(" + s + ", " + i + ", ..)", x.write(s, i, 0x7edcba9876543210L));
            }
            if (i > 1) {
                tell("write(" + s + ", 0, 0)", x.write(s, 0, 0));
            }
        }
    }
}
