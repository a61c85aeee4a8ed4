/** All that an object can be asked about, as one text; what has to be undone or read away for it comes last. */
final class State {
    private final LampSquares x;
    private final StringBuilder text = new StringBuilder();

    private State(LampSquares x) {
        this.x = x;
    }

    /** All of it. The object is used up: its acts are undone, its images restored, its tape read, its rows dropped. */
    static String all(LampSquares x) {
        State state = new State(x);
        state.counts();
        state.trace();
        state.add("fault", x.fault());
        state.door();
        state.acts();
        state.images();
        state.tape();
        state.rows();
        return state.text.toString();
    }

    /** The door alone, with the acts that can be undone; nothing is used up. */
    static String ofDoor(LampSquares x) {
        State state = new State(x);
        for (int what = 1; what <= 6; what++) {
            state.add("count " + what, x.count(what));
        }
        state.door();
        return state.text.toString();
    }

    /** Images and rows alone; they are used up. */
    static String ofImagesAndRows(LampSquares x) {
        State state = new State(x);
        state.images();
        state.rows();
        return state.text.toString();
    }

    private void add(String name, long answer) {
        text.append(name).append(": ").append(answer).append('\n');
    }

    private void counts() {
        for (int what = 0; what <= 7; what++) {
            add("count " + what, x.count(what));
        }
    }

    private void trace() {
        for (int i = 0; i < 7; i++) {
            add("trace " + i, x.trace(i));
        }
    }

    private void door() {
        int squares = x.count(1);
        int visitors = x.count(2);
        for (int one = 0; one < squares; one++) {
            for (int what = 0; what <= 5; what++) {
                add("square " + one + " " + what, x.square(one, what));
            }
            add("kind " + one, x.kind(one));
        }
        for (int one = 0; one < visitors; one++) {
            for (int what = 0; what <= 3; what++) {
                add("visitor " + one + " " + what, x.visitor(one, what));
            }
        }
    }

    private void acts() {
        for (int i = 0; i < 25; i++) {
            int left = x.undo();
            add("undo", left);
            add("its strict", x.count(3));
            add("its votes", x.count(5));
            if (left < 0) {
                return;
            }
        }
    }

    private void images() {
        for (int k = 0; k <= 1; k++) {
            int kept = x.restore(k);
            add("restore " + k, kept);
            if (kept == 1) {
                add("its strict", x.count(3));
                add("its votes", x.count(5));
                imageThatWasRestored();
            }
        }
    }

    private void imageThatWasRestored() {
        int squares = x.count(1);
        int visitors = x.count(2);
        for (int one = 0; one < squares; one++) {
            add("its square " + one, x.square(one, 0));
            add("settled as", x.square(one, 5));
        }
        for (int one = 0; one < visitors; one++) {
            add("its visitor " + one, x.visitor(one, 2));
        }
    }

    /** What is on the tape is told by how it is read. */
    private void tape() {
        add("door", x.door());
        add("fault", x.fault());
        add("strict", x.count(3));
    }

    /** The first items of a row, told by what shares answers to one item, then its length. */
    private void rows() {
        Due.read(x, "d1,0;k0;v9,0;");
        for (int row = 0; row < 8; row++) {
            for (int i = 0; i < 2; i++) {
                add("row " + row + " item " + i, x.shares(0, row, i));
            }
            add("row " + row, x.drop(row));
        }
    }
}
