/** Promises 35 to 39, KINDS and ASKS: each sentence that names a boundary case, with a test of its own. */
public final class EdgesOfAsksTest {
    private static final Due due = new Due("EdgesOfAsksTest");
    private static final int LEAST = Integer.MIN_VALUE, MOST = Integer.MAX_VALUE;

    public static void main(String[] args) {
        kindsOneToFive();
        asEveryKind();
        asOfEverySquare();
        sizeByLeastAndGreatest();
        markByLeastAndGreatest();
        sizeOfEachNumber();
        markOfEachNumber();
        theBodyOfTheNearestKind();
        askedAnewAndOnce();
        settledOnesStayOfTheirKind();
        theTraceIsEmptyAhead();
        theTraceStaysWhereRefused();
        theTraceBeyond();
        countsOfNone();
        countsOfAll();
        countsBeyond();
        due.end();
    }

    /** "The KIND of a SQUARE, as told (1 to 5)": of the first and of the last. */
    private static void kindsOneToFive() {
        for (int sort = 0; sort < 5; sort++) {
            char letter = "kecuh".charAt(sort);
            LampSquares x = Due.at("d1,0;" + letter + "0;k0;k0;k0;k0;k0;k0;" + letter + "9;v0,0;");
            due.is("kind(0) of " + letter, x.kind(0), sort + 1);
            due.is("kind(7) of " + letter, x.kind(7), sort + 1);
            due.is("kind(6)", x.kind(6), 1);
            due.is("kind(8)", x.kind(8), Due.BAD);
        }
    }

    /** "0 SQUARE; 1 KNOWN, a SQUARE; 2 EDGED, a KNOWN; 3 CROOKED, a KNOWN; 4 UNKNOWN, a SQUARE; 5 HEARD, an UNKNOWN". */
    private static void asEveryKind() {
        boolean[][] is = {
            {true, true, false, false, false, false},
            {true, true, true, false, false, false},
            {true, true, false, true, false, false},
            {true, false, false, false, true, false},
            {true, false, false, false, true, true},
        };
        LampSquares x = Due.at("d1,0;k0;e0;c0;u0;h0;v0,0;");
        for (int one = 0; one < 5; one++) {
            for (int kind = 0; kind <= 5; kind++) {
                due.is("as(" + one + ", " + kind + ")", x.as(one, kind), is[one][kind] ? one : Due.KIND);
                due.is("status()", x.status(), is[one][kind] ? 0 : 3);
            }
            x.as(0, 2);
            for (int kind : new int[] {-1, 6, LEAST, MOST}) {
                due.is("as(" + one + ", " + kind + ")", x.as(one, kind), Due.BAD);
                due.is("status() stays", x.status(), 3);
            }
        }
    }

    /** "its number": of the first, 0, and of the last. */
    private static void asOfEverySquare() {
        LampSquares x = Due.at("d1,0;h0;h0;h0;h0;h0;h0;h0;h0;v0,0;");
        for (int one = 0; one < 8; one++) {
            due.is("as(" + one + ", 0)", x.as(one, 0), one);
            due.is("as(" + one + ", 5)", x.as(one, 5), one);
        }
        due.is("as(8, 0)", x.as(8, 0), Due.BAD);
        due.is("as(-1, 0)", x.as(-1, 0), Due.BAD);
    }

    private static void ask(LampSquares x, int one, int what, int answer, String trace) {
        due.is("ask(" + one + ", " + what + ")", x.ask(one, what), answer);
        String told = Due.trace(x);
        due.holds("the trace of ask(" + one + ", " + what + ") is " + trace + ", not " + told, told.equals(trace));
    }

    /** One visitor, who clicks nothing; SHARE 0 and 9 of each kind. */
    private static void sizeByLeastAndGreatest() {
        LampSquares x = Due.at("d1,0;k0;e0;c0;u0;h0;v0,0;");
        int[] least = {0, -2, -998, -100, -200};
        int[] greatest = {9, -11, -989, -91, -182};
        String[] traces = {"11 10 21 20", "12 11 10 24 21 20", "11 10 22 21 20", "13 10", "14 13 10"};
        for (int one = 0; one < 5; one++) {
            ask(x, one, 0, least[one], traces[one]);
            x.share(one, 9);
            ask(x, one, 0, greatest[one], traces[one]);
        }
    }

    private static void markByLeastAndGreatest() {
        LampSquares x = Due.at("d1,0;k0;e0;c0;u0;h0;v0,0;");
        int[] least = {0, 2, -998, 103, 204};
        int[] greatest = {0, 2, -998, 94, 186};
        String[] traces = {"21 20", "24 21 20", "22 21 20", "23 20 13 10", "23 20 14 13 10"};
        for (int one = 0; one < 5; one++) {
            ask(x, one, 1, least[one], traces[one]);
            x.share(one, 9);
            ask(x, one, 1, greatest[one], traces[one]);
        }
    }

    /** As many visitors as there is room for, all of whom click all but heard ones: at the last square, and the first. */
    private static LampSquares full(String first, String last) {
        return Due.at("d1,0;" + first + "9;k9;k9;k9;k9;k9;k9;" + last + "9;v9,9;v9,9;v9,9;v9,9;v9,0;");
    }

    private static void sizeOfEachNumber() {
        String sorts = "kecuh";
        int[] first = {14, -19, -986, -91, -182};
        int[] last = {21, -33, -979, -91, -182};
        for (int sort = 0; sort < 5; sort++) {
            LampSquares x = full("" + sorts.charAt(sort), "" + sorts.charAt(sort));
            due.is("ask(0, 0) of " + sorts.charAt(sort), x.ask(0, 0), first[sort]);
            due.is("ask(7, 0) of " + sorts.charAt(sort), x.ask(7, 0), last[sort]);
        }
    }

    private static void markOfEachNumber() {
        String sorts = "kecuh";
        int[] first = {5, 10, -995, 91, 182};
        int[] last = {12, 24, -988, 98, 189};
        for (int sort = 0; sort < 5; sort++) {
            LampSquares x = full("" + sorts.charAt(sort), "" + sorts.charAt(sort));
            due.is("ask(0, 1) of " + sorts.charAt(sort), x.ask(0, 1), first[sort]);
            due.is("ask(7, 1) of " + sorts.charAt(sort), x.ask(7, 1), last[sort]);
        }
    }

    /** "the BODY told for the KIND begins, else that of the nearest KIND that it is, too". */
    private static void theBodyOfTheNearestKind() {
        LampSquares x = Due.at("d1,0;k5;e5;c5;u5;h5;v9,9;v0,0;");
        int[] size = {11, 12, 11, 13, 14};
        int[] mark = {21, 24, 22, 23, 23};
        for (int one = 0; one < 5; one++) {
            x.ask(one, 0);
            due.is("the first BODY of SIZE of " + one, x.trace(0), size[one]);
            x.ask(one, 1);
            due.is("the first BODY of MARK of " + one, x.trace(0), mark[one]);
        }
    }

    /** "SIZE, MARK within others are asked of the same SQUARE anew"; "twice what 13 gives (asked once)". */
    private static void askedAnewAndOnce() {
        LampSquares x = Due.at("d1,0;e0;e5;c5;h5;v9,9;v5,5;");
        ask(x, 1, 0, -(5 + 2 * (1 + 1)), "12 11 10 24 21 20");
        ask(x, 2, 0, 5 + 2 + 2 - 1000, "11 10 22 21 20");
        ask(x, 3, 1, 3 - 2 * (5 - 100), "23 20 14 13 10");
        x.share(1, 6);
        ask(x, 1, 0, -(6 + 2 * (1 + 2)), "12 11 10 24 21 20");
        ask(x, 0, 1, 0, "24 21 20");
    }

    /** A settled one is asked as it was told. */
    private static void settledOnesStayOfTheirKind() {
        LampSquares x = Due.at("d1,0;u5;h5;v9,9;");
        x.settle(0);
        x.pose(0, 2);
        x.settle(1);
        due.is("kind(0)", x.kind(0), 4);
        due.is("kind(1)", x.kind(1), 5);
        due.is("as(0, 1)", x.as(0, 1), Due.KIND);
        ask(x, 0, 0, -95, "13 10");
        ask(x, 1, 0, -190, "14 13 10");
        ask(x, 1, 1, 191, "23 20 14 13 10");
    }

    /** "THE TRACE is empty ahead of it": a short one behind a long one. */
    private static void theTraceIsEmptyAhead() {
        LampSquares x = Due.at("d1,0;k0;e0;u0;v0,0;");
        ask(x, 1, 0, -2, "12 11 10 24 21 20");
        ask(x, 2, 0, -100, "13 10");
        for (int i = 2; i < 16; i++) {
            due.is("trace(" + i + ")", x.trace(i), Due.NONE);
        }
        ask(x, 1, 0, -2, "12 11 10 24 21 20");
        for (int i = 0; i < 20; i++) {
            x.ask(1, 0);
        }
        ask(x, 0, 1, 0, "21 20");
    }

    /** "(where that is refused it stays)"; by no other call it changes. */
    private static void theTraceStaysWhereRefused() {
        LampSquares x = Due.at("d1,0;k0;e0;u0;v0,0;");
        ask(x, 1, 0, -2, "12 11 10 24 21 20");
        int[][] refused = {{-1, 0}, {3, 0}, {LEAST, 0}, {MOST, 0}, {0, -1}, {0, 2}, {0, LEAST}, {0, MOST}, {3, 2}};
        for (int[] of : refused) {
            due.is("ask(" + of[0] + ", " + of[1] + ")", x.ask(of[0], of[1]), Due.BAD);
            due.holds("the trace stays", Due.trace(x).equals("12 11 10 24 21 20"));
        }
        x.as(0, 2);
        x.sees(0, 2);
        x.keen(0);
        x.image(0);
        x.restore(0);
        x.strict(4);
        x.undo();
        Due.read(x, "d");
        Due.read(x, "d1,0;u0;v0,0;");
        due.holds("the trace stays", Due.trace(x).equals("12 11 10 24 21 20"));
    }

    /** "Number i of THE TRACE; NONE": empty; behind its last; below and far beyond. */
    private static void theTraceBeyond() {
        LampSquares x = new LampSquares();
        int[] all = {LEAST, -1, 0, 1, 15, 16, 17, MOST};
        for (int i : all) {
            due.is("trace(" + i + ") of an empty one", x.trace(i), Due.NONE);
        }
        Due.read(x, "d1,0;e0;v0,0;");
        x.ask(0, 0);
        for (int i : all) {
            due.is("trace(" + i + ") of six", x.trace(i), i == 0 ? 12 : i == 1 ? 11 : Due.NONE);
        }
        due.is("trace(5), the last", x.trace(5), 20);
        due.is("trace(6)", x.trace(6), Due.NONE);
    }

    private static void countsOfNone() {
        LampSquares x = new LampSquares();
        for (int what = 0; what <= 7; what++) {
            due.is("count(" + what + ") at no door", x.count(what), 0);
        }
        Due.read(x, "d1,0;u0;v0,0;");
        int[] counts = {0, 1, 1, 0, 0, 0, 0, 0};
        for (int what = 0; what <= 7; what++) {
            due.is("count(" + what + ") of the least door", x.count(what), counts[what]);
        }
    }

    private static void countsOfAll() {
        LampSquares x = Due.at("d1,8;k9;k9;k9;k9;k9;k9;k9;u9;v0,0;v0,1;v0,2;v0,3;v9,4;");
        for (int row = 0; row < 8; row++) {
            x.row(row, 0, 0);
        }
        for (int i = 0; i < 100; i++) {
            x.pose(0, 128);
            x.pose(4, 128);
        }
        x.settle(7);
        for (int i = 0; i < 121; i++) {
            x.feed(0);
        }
        int[] counts = {8, 8, 5, 8, 255, 198, 24, 120};
        for (int what = 0; what <= 7; what++) {
            due.is("count(" + what + ") of a full one", x.count(what), counts[what]);
        }
    }

    private static void countsBeyond() {
        LampSquares x = new LampSquares();
        for (int what : new int[] {-1, 8, LEAST, MOST}) {
            due.is("count(" + what + ") at no door", x.count(what), Due.BAD);
        }
        Due.read(x, Due.SIX);
        for (int what : new int[] {-1, 8, LEAST, MOST}) {
            due.is("count(" + what + ")", x.count(what), Due.BAD);
        }
    }
}
