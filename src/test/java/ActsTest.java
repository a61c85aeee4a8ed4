/** Promises 9 to 16: what is done, undone, and seen. */
public final class ActsTest {
    private static final Due due = new Due("ActsTest");
    private static final int MOST = Integer.MAX_VALUE;

    public static void main(String[] args) {
        undo();
        theOldestActsAreForgotten();
        pose();
        votesEndAtNinetyNine();
        strict();
        share();
        settle();
        square();
        visitor();
        sees();
        due.end();
    }

    private static void undo() {
        LampSquares x = Due.at(Due.SIX);
        due.is("undo()", x.undo(), Due.STATE);
        x.pose(0, 63);
        x.strict(1);
        x.share(0, 0);
        x.settle(3);
        due.is("count(6)", x.count(6), 4);
        due.is("square(3, 5)", x.square(3, 5), 1);
        due.is("undo() of settle", x.undo(), 3);
        due.is("square(3, 5)", x.square(3, 5), Due.NONE);
        due.is("square(3, 2)", x.square(3, 2), 0);
        due.is("square(0, 0)", x.square(0, 0), 0);
        due.is("undo() of share", x.undo(), 2);
        due.is("square(0, 0)", x.square(0, 0), 6);
        due.is("undo() of strict, by which nothing became another", x.undo(), 1);
        due.is("count(5)", x.count(5), 2);
        due.is("visitor(0, 2)", x.visitor(0, 2), 1);
        due.is("undo() of pose", x.undo(), 0);
        due.is("count(5)", x.count(5), 0);
        due.is("visitor(0, 2)", x.visitor(0, 2), 0);
        due.is("visitor(0, 3)", x.visitor(0, 3), 0);
        due.is("undo()", x.undo(), Due.STATE);
        x.pose(9, 0);
        x.strict(9);
        x.share(0, 10);
        x.settle(0);
        due.is("what was refused is no act", x.count(6), 0);
    }

    private static void theOldestActsAreForgotten() {
        LampSquares x = Due.at(Due.SIX);
        for (int i = 0; i < 30; i++) {
            x.strict(i % 9);
        }
        due.is("count(6)", x.count(6), 24);
        for (int left = 23; left >= 0; left--) {
            due.is("undo()", x.undo(), left);
            due.is("count(3)", x.count(3), (left + 5) % 9);
        }
        due.is("undo()", x.undo(), Due.STATE);
        due.is("strict(3)", x.strict(3), 5);
        due.is("undo()", x.undo(), 0);
        due.is("count(3)", x.count(3), 5);
    }

    private static void pose() {
        LampSquares none = new LampSquares();
        due.is("pose(0, 0) at no door", none.pose(0, 0), Due.BAD);
        LampSquares x = Due.at(Due.SIX);
        due.is("pose(-1, 0)", x.pose(-1, 0), Due.BAD);
        due.is("pose(4, 0)", x.pose(4, 0), Due.BAD);
        due.is("pose(0, 64)", x.pose(0, 64), Due.BAD);
        due.is("pose(0, -1)", x.pose(0, -1), Due.BAD);
        due.is("pose(0, MOST)", x.pose(0, MOST), Due.BAD);
        due.is("count(6)", x.count(6), 0);
        due.is("pose(0, 63): wrong at one", x.pose(0, 63), 1);
        due.is("square(3, 3)", x.square(3, 3), 1);
        due.is("square(4, 3)", x.square(4, 3), 1);
        due.is("a known one has no votes", x.square(0, 3), 0);
        due.is("pose(1, 48)", x.pose(1, 48), 1);
        due.is("square(4, 4)", x.square(4, 4), 1);
        due.is("square(3, 4): it was not asked", x.square(3, 4), 0);
        due.is("pose(3, 63): wrong at two", x.pose(3, 63), 0);
        due.is("count(5)", x.count(5), 3);
        due.is("visitor(3, 2)", x.visitor(3, 2), 1);
        due.is("visitor(3, 3)", x.visitor(3, 3), 0);
        due.is("pose(3, 58): wrong at one", x.pose(3, 58), 1);
        due.is("square(3, 4)", x.square(3, 4), 1);
        due.is("square(4, 4)", x.square(4, 4), 2);
        due.is("pose(3, 0): wrong at none", x.pose(3, 0), 1);
        due.is("visitor(3, 2)", x.visitor(3, 2), 3);
        due.is("visitor(3, 3)", x.visitor(3, 3), 2);
        due.is("count(6)", x.count(6), 5);
        x.settle(3);
        x.pose(0, 8);
        due.is("a settled one has no more votes", x.square(3, 3) + x.square(3, 4), 2);
    }

    private static void votesEndAtNinetyNine() {
        LampSquares x = Due.at("d5,0;u5;v9,0;v0,0;");
        for (int i = 0; i < 99; i++) {
            x.pose(0, 1);
            x.pose(1, 1);
        }
        due.is("square(0, 3)", x.square(0, 3), 99);
        due.is("square(0, 4)", x.square(0, 4), 99);
        x.pose(0, 1);
        x.pose(1, 1);
        due.is("square(0, 3)", x.square(0, 3), 99);
        due.is("square(0, 4)", x.square(0, 4), 99);
        due.is("count(5)", x.count(5), 198);
        due.is("visitor(0, 2)", x.visitor(0, 2), 100);
        due.is("drawn(60, 1, 1)", x.drawn(60, 1, 1), 198);
        due.is("drawn(60, 1, 0)", x.drawn(60, 1, 0), 60);
        due.is("needs(0)", x.needs(0), 1);
        x.undo();
        x.undo();
        due.is("an act that added no vote takes none back", x.count(5), 198);
        x.undo();
        due.is("count(5)", x.count(5), 197);
    }

    private static void strict() {
        LampSquares x = new LampSquares();
        due.is("strict(9) at no door: STATE is ahead of BAD", x.strict(9), Due.STATE);
        Due.read(x, Due.SIX);
        due.is("strict(-1)", x.strict(-1), Due.BAD);
        due.is("strict(9)", x.strict(9), Due.BAD);
        due.is("strict(8)", x.strict(8), 1);
        due.is("guests(63)", x.guests(63), 15);
        due.is("strict(0)", x.strict(0), 8);
        due.is("guests(63)", x.guests(63), 0);
        due.is("strict(2)", x.strict(2), 0);
        due.is("guests(63)", x.guests(63), 11);
        due.is("count(3)", x.count(3), 2);
    }

    private static void share() {
        LampSquares x = Due.at(Due.SIX);
        due.is("share(-1, 0)", x.share(-1, 0), Due.BAD);
        due.is("share(6, 0)", x.share(6, 0), Due.BAD);
        due.is("share(0, -1)", x.share(0, -1), Due.BAD);
        due.is("share(0, 10)", x.share(0, 10), Due.BAD);
        due.is("share(0, 3)", x.share(0, 3), 6);
        due.is("it has no lamp any more", x.square(0, 1), 0);
        due.is("wrong(1, 1): he does not click it any more", x.wrong(1, 1), 0);
        due.is("share(0, 9)", x.share(0, 9), 3);
        due.is("clicks(2)", x.clicks(2), 21);
        due.is("share(5, 0)", x.share(5, 0), 0);
        due.is("kind(0) stays", x.kind(0), 1);
    }

    private static void settle() {
        LampSquares x = Due.at(Due.SIX);
        due.is("settle(-1)", x.settle(-1), Due.BAD);
        due.is("settle(6)", x.settle(6), Due.BAD);
        due.is("settle(0), known", x.settle(0), Due.STATE);
        due.is("settle(1), edged", x.settle(1), Due.STATE);
        due.is("settle(2), crooked", x.settle(2), Due.STATE);
        due.is("settle(4), no votes", x.settle(4), 0);
        due.is("settle(4) again", x.settle(4), Due.STATE);
        due.is("it counts now", x.count(4), 55);
        due.is("wrong(0, 16): he clicks what is settled as none", x.wrong(0, 16), 1);
        due.is("wrong(1, 16)", x.wrong(1, 16), 0);
        x.pose(0, 8);
        x.pose(1, 8);
        x.pose(3, 8);
        x.pose(3, 8);
        due.is("settle(3) by as many", x.settle(3), 0);
        x.undo();
        x.undo();
        due.is("settle(3) by more for it", x.settle(3), 1);
        due.is("wrong(3, 8): he does not click a lamp", x.wrong(3, 8), 1);
        x.share(3, 0);
        due.is("it is no lamp by its share", x.square(3, 1), 0);
        due.is("but settled as one", x.square(3, 5), 1);
        due.is("wrong(1, 8)", x.wrong(1, 8), 1);
    }

    private static void square() {
        LampSquares none = new LampSquares();
        due.is("square(0, 0) at no door", none.square(0, 0), Due.BAD);
        LampSquares x = Due.at(Due.SIX);
        due.is("square(-1, 0)", x.square(-1, 0), Due.BAD);
        due.is("square(6, 0)", x.square(6, 0), Due.BAD);
        due.is("square(0, -1)", x.square(0, -1), Due.BAD);
        due.is("square(0, 6)", x.square(0, 6), Due.BAD);
        int[] lamps = {1, 1, 0, 1, 1, 0};
        int[] counted = {1, 1, 1, 0, 0, 1};
        for (int i = 0; i < 6; i++) {
            due.is("square(" + i + ", 1)", x.square(i, 1), lamps[i]);
            due.is("square(" + i + ", 2)", x.square(i, 2), counted[i]);
            due.is("square(" + i + ", 5)", x.square(i, 5), Due.NONE);
        }
        x.pose(1, 16);
        due.is("square(4, 3)", x.square(4, 3), 0);
        due.is("square(4, 4)", x.square(4, 4), 1);
        x.settle(4);
        due.is("square(4, 5)", x.square(4, 5), 0);
        due.is("square(4, 1), by its share", x.square(4, 1), 1);
        due.is("square(4, 2)", x.square(4, 2), 1);
        due.is("square(4, 4)", x.square(4, 4), 1);
    }

    private static void visitor() {
        LampSquares none = new LampSquares();
        due.is("visitor(0, 0) at no door", none.visitor(0, 0), Due.BAD);
        LampSquares x = Due.at(Due.SIX);
        due.is("visitor(-1, 0)", x.visitor(-1, 0), Due.BAD);
        due.is("visitor(4, 0)", x.visitor(4, 0), Due.BAD);
        due.is("visitor(0, -1)", x.visitor(0, -1), Due.BAD);
        due.is("visitor(0, 4)", x.visitor(0, 4), Due.BAD);
        due.is("visitor(1, 0)", x.visitor(1, 0), 5);
        due.is("visitor(1, 1)", x.visitor(1, 1), 2);
        due.is("visitor(2, 0)", x.visitor(2, 0), 3);
        due.is("visitor(2, 1)", x.visitor(2, 1), 6);
        x.pose(2, 63);
        x.pose(2, 1);
        due.is("visitor(2, 2)", x.visitor(2, 2), 2);
        due.is("visitor(2, 3)", x.visitor(2, 3), 1);
        due.is("visitor(1, 2)", x.visitor(1, 2), 0);
    }

    private static void sees() {
        LampSquares none = new LampSquares();
        due.is("sees(0, 0) at no door", none.sees(0, 0), Due.BAD);
        LampSquares x = Due.at(Due.SIX);
        due.is("sees(4, 0)", x.sees(4, 0), Due.BAD);
        due.is("sees(-1, 0)", x.sees(-1, 0), Due.BAD);
        due.is("sees(0, 6)", x.sees(0, 6), Due.BAD);
        due.is("sees(0, -1)", x.sees(0, -1), Due.BAD);
        int[][] seen = {{6, 3, 2, 5, 7, 0}, {6, 3, 2, 5, 0, 0}, {6, 3, 7, 5, 7, 0}, {6, 3, 7, 5, 0, 0}};
        for (int v = 0; v < 4; v++) {
            for (int s = 0; s < 6; s++) {
                due.is("sees(" + v + ", " + s + ")", x.sees(v, s), seen[v][s]);
            }
        }
        LampSquares y = Due.at("d1,0;e0;c3;h8;v4,4;v5,5;");
        due.is("0 at least of an edged one", y.sees(0, 0), 0);
        due.is("crooked, care 4", y.sees(0, 1), 6);
        due.is("crooked, care 5", y.sees(1, 1), 3);
        due.is("heard, ear 4", y.sees(0, 2), 0);
        due.is("heard, ear 5", y.sees(1, 2), 8);
    }
}
