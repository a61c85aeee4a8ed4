/** Counts the answers that are not as due, and helps to tell doors and rows. */
final class Due {
    static final int NONE = -1000000, BAD = -1000001, STATE = -1000002, FULL = -1000003;
    static final int NULL = -1000011, PLACE = -1000012, KIND = -1000013, SIZE = -1000014, STORE = -1000015;

    /** Clicks of the visitors: 31, 9, 20, 0. Wrong at: 4, 2, 7, 3. Squares that count: 39. */
    static final String SIX = "d4,1;k6;e4;c2;u5;h7;k0;v9,9;v5,2;v3,6;v0,0;";

    private final String name;
    private int calls = 0;
    private int wrong = 0;

    Due(String name) {
        this.name = name;
    }

    void is(String call, long got, long want) {
        calls++;
        if (got != want) {
            wrong++;
            System.out.println(name + ": " + call + " answered " + got + ", due is " + want);
        }
    }

    void holds(String what, boolean so) {
        is(what, so ? 1 : 0, 1);
    }

    void end() {
        System.out.println(name + ": " + calls + " answers, " + wrong + " not as due");
        if (wrong != 0) {
            System.exit(1);
        }
    }

    static void feed(LampSquares x, String text) {
        for (int i = 0; i < text.length(); i++) {
            x.feed(text.charAt(i));
        }
    }

    static int read(LampSquares x, String text) {
        feed(x, text);
        return x.door();
    }

    static LampSquares at(String text) {
        LampSquares x = new LampSquares();
        if (read(x, text) <= 0) {
            throw new IllegalStateException("a test's own door cannot be read: " + text);
        }
        return x;
    }

    static void tell(LampSquares x, int row, int... items) {
        x.row(row, 0, items.length);
        for (int i = 0; i < items.length; i++) {
            x.set(row, i, items[i]);
        }
    }

    static String trace(LampSquares x) {
        StringBuilder text = new StringBuilder();
        for (int i = 0; x.trace(i) != NONE; i++) {
            text.append(i == 0 ? "" : " ").append(x.trace(i));
        }
        return text.toString();
    }
}
