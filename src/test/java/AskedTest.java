/** Promises 35 to 39: kinds, asks, the trace, counts. */
public final class AskedTest {
    private static final Due due = new Due("AskedTest");

    public static void main(String[] args) {
        kind();
        as();
        ask();
        trace();
        count();
        due.end();
    }

    private static void kind() {
        due.is("kind(0) at no door", new LampSquares().kind(0), Due.BAD);
        LampSquares x = Due.at(Due.SIX);
        int[] kinds = {1, 2, 3, 4, 5, 1};
        for (int i = 0; i < 6; i++) {
            due.is("kind(" + i + ")", x.kind(i), kinds[i]);
        }
        due.is("kind(6)", x.kind(6), Due.BAD);
        due.is("kind(-1)", x.kind(-1), Due.BAD);
        x.settle(4);
        due.is("a settled one stays what it is", x.kind(4), 5);
    }

    private static void as() {
        due.is("as(0, 0) at no door", new LampSquares().as(0, 0), Due.BAD);
        LampSquares x = Due.at(Due.SIX);
        String[] is = {"01", "012", "013", "04", "045"};
        for (int one = 0; one < 5; one++) {
            for (int kind = 0; kind <= 5; kind++) {
                boolean so = is[one].indexOf('0' + kind) >= 0;
                due.is("as(" + one + ", " + kind + ")", x.as(one, kind), so ? one : Due.KIND);
                due.is("status()", x.status(), so ? 0 : 3);
            }
        }
        due.is("as(6, 0)", x.as(6, 0), Due.BAD);
        due.is("as(-1, 0)", x.as(-1, 0), Due.BAD);
        due.is("as(0, 6)", x.as(0, 6), Due.BAD);
        due.is("as(0, -1)", x.as(0, -1), Due.BAD);
        due.is("status() stays", x.status(), 0);
    }

    private static void asked(LampSquares x, int one, int what, int answer, String trace) {
        due.is("ask(" + one + ", " + what + ")", x.ask(one, what), answer);
        due.holds("the trace of ask(" + one + ", " + what + ") is " + trace + ", not " + Due.trace(x),
                Due.trace(x).equals(trace));
    }

    private static void ask() {
        due.is("ask(0, 0) at no door", new LampSquares().ask(0, 0), Due.BAD);
        LampSquares x = Due.at(Due.SIX);
        asked(x, 0, 0, 8, "11 10 21 20");
        asked(x, 1, 0, -8, "12 11 10 24 21 20");
        asked(x, 2, 0, -994, "11 10 22 21 20");
        asked(x, 3, 0, -95, "13 10");
        asked(x, 4, 0, -186, "14 13 10");
        asked(x, 5, 0, 5, "11 10 21 20");
        asked(x, 0, 1, 2, "21 20");
        asked(x, 1, 1, 4, "24 21 20");
        asked(x, 2, 1, -996, "22 21 20");
        asked(x, 3, 1, 98, "23 20 13 10");
        asked(x, 4, 1, 190, "23 20 14 13 10");
        due.is("ask(6, 0)", x.ask(6, 0), Due.BAD);
        due.is("ask(-1, 0)", x.ask(-1, 0), Due.BAD);
        due.is("ask(0, 2)", x.ask(0, 2), Due.BAD);
        due.is("ask(0, -1)", x.ask(0, -1), Due.BAD);
        due.holds("the trace stays, where it is refused", Due.trace(x).equals("23 20 14 13 10"));
        x.share(0, 9);
        asked(x, 0, 0, 12, "11 10 21 20");
        x.share(1, 9);
        asked(x, 1, 1, 8, "24 21 20");
        asked(x, 1, 0, -17, "12 11 10 24 21 20");
        LampSquares y = Due.at("d1,0;u0;u0;u0;u0;u0;u0;c0;e9;v9,0;v9,0;v9,0;v0,0;v4,4;");
        asked(y, 7, 1, 22, "24 21 20");
        asked(y, 7, 0, -31, "12 11 10 24 21 20");
        asked(y, 6, 0, -993, "11 10 22 21 20");
    }

    private static void trace() {
        LampSquares x = Due.at(Due.SIX);
        due.is("trace(0)", x.trace(0), Due.NONE);
        x.ask(3, 0);
        due.is("trace(0)", x.trace(0), 13);
        due.is("trace(1)", x.trace(1), 10);
        due.is("trace(2)", x.trace(2), Due.NONE);
        due.is("trace(-1)", x.trace(-1), Due.NONE);
        due.is("trace(16)", x.trace(16), Due.NONE);
        due.is("trace(MOST)", x.trace(Integer.MAX_VALUE), Due.NONE);
    }

    private static void count() {
        LampSquares x = Due.at(Due.SIX);
        Due.feed(x, "d1");
        x.row(5, 0, 0);
        x.pose(0, 24);
        x.pose(3, 16);
        x.settle(4);
        int[] counts = {1, 6, 4, 1, 55, 3, 3, 2};
        for (int what = 0; what < counts.length; what++) {
            due.is("count(" + what + ")", x.count(what), counts[what]);
        }
        due.is("count(8)", x.count(8), Due.BAD);
        due.is("count(-1)", x.count(-1), Due.BAD);
    }
}
