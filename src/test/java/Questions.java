import java.util.ArrayList;
import java.util.List;

/**
 * Rows of calls that bring to light all that an object holds, each for an object of its own: some
 * ask, some change it (undo, back, writes, tells) and ask then what has come of it.
 */
final class Questions {
    static final List<List<Call>> ALL = all();

    private final List<Call> calls = new ArrayList<>();

    private static List<List<Call>> all() {
        List<List<Call>> all = new ArrayList<>();
        all.add(new Questions().block().counts().calls);
        all.add(new Questions().kinds().values().accesses().counts().calls);
        all.add(new Questions().reads().verdicts().calls);
        all.add(new Questions().steps().calls);
        for (int undone = 1; undone <= 7; undone++) {
            all.add(new Questions().times(undone, "undo").kinds().values().accesses().counts().calls);
        }
        for (int image = 0; image < 2; image++) {
            all.add(new Questions().add("back", image).kinds().values().accesses().counts().calls);
        }
        // An undo makes room in a full log, so that the writes go through.
        all.add(new Questions().add("undo").writesUpward(0).values().calls);
        all.add(new Questions().add("undo").writesUpward(255).values().calls);
        all.add(new Questions().add("undo").writesDownward(255).values().calls);
        all.add(new Questions().add("tells").counts().block().calls);
        all.add(new Questions().add("type", ';').add("tells").counts().block().calls);
        return all;
    }

    private Questions add(String name, int... values) {
        calls.add(new Call(name, values));
        return this;
    }

    private Questions times(int times, String name) {
        for (int i = 0; i < times; i++) {
            add(name);
        }
        return this;
    }

    private Questions counts() {
        for (int what = 0; what < 8; what++) {
            add("count", what);
        }
        return this;
    }

    /** What the text has given. */
    private Questions block() {
        for (int what = 0; what < 5; what++) {
            for (int f = 0; f < 12; f++) {
                add("field", f, what);
            }
        }
        for (int what = 0; what < 3; what++) {
            for (int r = 0; r < 6; r++) {
                add("register", r, what);
            }
            for (int a = 0; a < 4; a++) {
                add("alias", a, what);
            }
        }
        return this;
    }

    private Questions kinds() {
        for (int f = 0; f < 12; f++) {
            add("field", f, 7);
        }
        return this;
    }

    private Questions values() {
        for (int f = 0; f < 12; f++) {
            add("field", f, 5).add("field", f, 6);
        }
        for (int r = 0; r < 6; r++) {
            add("register", r, 3).add("register", r, 4);
        }
        return this;
    }

    private Questions accesses() {
        for (int k = 0; k < 20; k++) {
            add("log", k, 0).add("log", k, 1).add("log", k, 2);
        }
        return add("differed", 0).add("differed", 1);
    }

    private Questions reads() {
        for (int address = 0; address < 16; address++) {
            add("at", address).add("peek", address, 0).add("peek", address, 1);
        }
        return this;
    }

    private Questions verdicts() {
        for (int what = 0; what < 3; what++) {
            add("suspects", what);
        }
        for (int address = 0; address < 16; address++) {
            add("touched", address, 0).add("touched", address, 255);
        }
        return add("clashes", 0).add("clashes", 1);
    }

    private Questions steps() {
        for (int k = -1; k < 48; k++) {
            add("walk", k, 0).add("walk", k, 1).add("walk", k, 2);
        }
        return this;
    }

    private Questions writesUpward(int v) {
        for (int address = 0; address < 16; address++) {
            add("writes", address, v);
        }
        return this;
    }

    private Questions writesDownward(int v) {
        for (int address = 15; address >= 0; address--) {
            add("writes", address, v);
        }
        return this;
    }
}
