/**
 * Each call that the document refuses: one below and one above what is allowed, the least and the greatest int;
 * which refusal is first; and that it changes nothing but status(). At no door, at one that is neither empty nor
 * full, and at one where all is full.
 */
public final class RefusalsTest {
    private static final Due due = new Due("RefusalsTest");
    private static final int[] ANY = {Integer.MIN_VALUE, -1, 0, 1, Integer.MAX_VALUE};

    /** One square of each kind, three visitors; row 7 is missing. */
    private static final String SOME = "d4,1;k6;e4;c2;u5;h7;v9,9;v5,2;v0,0;";
    private static final String FULL = "d4,1;k6;e4;c2;u5;h7;u9;k0;u1;v9,9;v5,2;v3,6;v0,0;v9,4;";

    private final Refused refused;
    private final int squares;
    private final int visitors;
    private final int allSquares;
    private final int allVisitors;

    private RefusalsTest(Refused refused, int squares, int visitors) {
        this.refused = refused;
        this.squares = squares;
        this.visitors = visitors;
        allSquares = (1 << squares) - 1;
        allVisitors = (1 << visitors) - 1;
    }

    public static void main(String[] args) {
        atNoDoor(new Refused(due, "no door", x -> { }));
        atNoDoor(new Refused(due, "no door, after a fault, with a row and half a tape", RefusalsTest::noDoorYet));
        int[] findings = {1, 3};
        for (int finding : findings) {
            Refused some = new Refused(due, "some, status() " + finding, x -> tellSome(x, finding));
            RefusalsTest test = new RefusalsTest(some, 5, 3);
            test.calls();
            test.rowsThatAreFound();
            test.kindsThatAreFound();
        }
        Refused full = new Refused(due, "full", RefusalsTest::tellFull);
        new RefusalsTest(full, 8, 5).calls();
        whatIsFull(full);
        due.end();
    }

    private static void noDoorYet(LampSquares x) {
        Due.read(x, "d1,9;");
        Due.tell(x, 3, 1, 0, 1);
        Due.feed(x, "d3,2;k");
        x.row(3, 0, -1);
    }

    private static void tellSome(LampSquares x, int finding) {
        Due.read(x, SOME);
        x.pose(0, 31);
        x.image(1);
        x.settle(4);
        x.share(0, 5);
        Due.read(x, "d0");
        Due.feed(x, "d3,2;k");
        Due.tell(x, 0, 1, 0, 1);
        Due.tell(x, 1, 1, 1, 1, 1, 1);
        x.row(2, 2, 0);
        x.row(3, 1, 40);
        x.ask(1, 0);
        if (finding == 1) {
            x.drop(7);
        } else {
            x.as(0, 4);
        }
    }

    private static void tellFull(LampSquares x) {
        for (int row = 0; row < 8; row++) {
            x.row(row, 2, 40);
        }
        Due.read(x, FULL);
        for (int i = 0; i < 10; i++) {
            x.pose(0, 255);
        }
        x.image(0);
        x.settle(5);
        x.image(1);
        for (int i = 0; i < 13; i++) {
            x.strict(i % 3);
        }
        x.ask(4, 1);
        for (int i = 0; i < 120; i++) {
            x.feed(i == 0 ? 'd' : ';');
        }
        x.row(0, 2, -1);
    }

    private static void whatIsFull(Refused refused) {
        refused.is("feed(0), the 121st", x -> x.feed(0), Due.FULL);
        refused.is("feed(255), the 121st", x -> x.feed(255), Due.FULL);
        refused.bad("feed(256): BAD is ahead of FULL", x -> x.feed(256));
        refused.bad("feed(-1): BAD is ahead of FULL", x -> x.feed(-1));
    }

    // ---- no door

    private static void atNoDoor(Refused refused) {
        refused.is("undo()", x -> x.undo(), Due.STATE);
        for (int a : ANY) {
            for (int b : ANY) {
                noSquareNoVisitor(refused, a, b);
                stateAheadOfBad(refused, a, b);
            }
        }
        for (int k : Refused.ends(0, 1)) {
            refused.is("image(" + k + ")", x -> x.image(k), Due.STATE);
            refused.is("restore(" + k + ")", x -> x.restore(k), Due.STATE);
        }
        for (int k : Refused.outside(0, 1)) {
            refused.bad("image(" + k + "): BAD is ahead of STATE", x -> x.image(k));
            refused.bad("restore(" + k + "): BAD is ahead of STATE", x -> x.restore(k));
        }
    }

    /** Where no door is read there are no squares and no visitors: the first of them is not told. */
    private static void noSquareNoVisitor(Refused refused, int a, int b) {
        String of = "(" + a + ", " + b + ")";
        refused.bad("pose" + of, x -> x.pose(a, b));
        refused.bad("share" + of, x -> x.share(a, b));
        refused.bad("square" + of, x -> x.square(a, b));
        refused.bad("visitor" + of, x -> x.visitor(a, b));
        refused.bad("sees" + of, x -> x.sees(a, b));
        refused.bad("wrong" + of, x -> x.wrong(a, b));
        refused.bad("as" + of, x -> x.as(a, b));
        refused.bad("ask" + of, x -> x.ask(a, b));
        refused.bad("shares(a, 3, b), a, b" + of, x -> x.shares(a, 3, b));
        refused.bad("kinds(a, 3, b), a, b" + of, x -> x.kinds(a, 3, b));
        refused.bad("slip(a, 0, b, 0), a, b" + of, x -> x.slip(a, 0, b, 0));
        refused.bad("slip(0, a, 0, b), a, b" + of, x -> x.slip(0, a, 0, b));
        refused.bad("settle(" + a + ")", x -> x.settle(a));
        refused.bad("clicks(" + a + ")", x -> x.clicks(a));
        refused.bad("learned(" + a + ")", x -> x.learned(a));
        refused.bad("needs(" + a + ")", x -> x.needs(a));
        refused.bad("kind(" + a + ")", x -> x.kind(a));
    }

    private static void stateAheadOfBad(Refused refused, int a, int b) {
        String of = "(" + a + ", " + b + ")";
        refused.is("strict(" + a + ")", x -> x.strict(a), Due.STATE);
        refused.is("guests(" + a + ")", x -> x.guests(a), Due.STATE);
        refused.is("keen(" + a + ")", x -> x.keen(a), Due.STATE);
        refused.is("fewest" + of, x -> x.fewest(a, b), Due.STATE);
        refused.is("harsh" + of, x -> x.harsh(a, b), Due.STATE);
        refused.is("tells" + of, x -> x.tells(a, b), Due.STATE);
        refused.is("save" + of, x -> x.save(a, b), Due.STATE);
        refused.is("who" + of, x -> x.who(a, b), Due.STATE);
        refused.is("who(3, b), a, b" + of, x -> x.who(3, b), Due.STATE);
        refused.is("cares(a, 3, b), a, b" + of, x -> x.cares(a, 3, b), Due.STATE);
        refused.is("cares(0, a, b), a, b" + of, x -> x.cares(0, a, b), Due.STATE);
        refused.is("drawn(a, b, 0), a, b" + of, x -> x.drawn(a, b, 0), Due.STATE);
        refused.is("drawn(0, 1, a), a, b" + of, x -> x.drawn(0, 1, a), Due.STATE);
    }

    // ---- a number that is not as told

    private void calls() {
        rows();
        told();
        acts();
        squaresAndVisitors();
        foretoldOfSets();
        foretoldOfSquares();
        foretoldOfRows();
        slip();
        drawn();
        images();
        asked();
    }

    private void rows() {
        for (int row : Refused.outside(0, 7)) {
            refused.bad("row(" + row + ", 0, 1)", x -> x.row(row, 0, 1));
            refused.bad("row(" + row + ", 0, -1): BAD is ahead of SIZE", x -> x.row(row, 0, -1));
            refused.bad("set(" + row + ", 0, 1)", x -> x.set(row, 0, 1));
            refused.bad("copy(" + row + ", 0, 0, 0, 1)", x -> x.copy(row, 0, 0, 0, 1));
            refused.bad("copy(0, 0, " + row + ", 0, 1)", x -> x.copy(0, 0, row, 0, 1));
            refused.bad("copy(7, 0, " + row + ", 0, -1): BAD is ahead", x -> x.copy(7, 0, row, 0, -1));
            refused.bad("copy(" + row + ", 0, 7, 0, -1): BAD is ahead", x -> x.copy(row, 0, 7, 0, -1));
            refused.bad("drop(" + row + ")", x -> x.drop(row));
        }
        for (int row : Refused.ends(0, 7)) {
            refused.allowed("row(" + row + ", 0, 1)", x -> x.row(row, 0, 1));
        }
        for (int lane : Refused.outside(0, 2)) {
            refused.bad("row(0, " + lane + ", 1)", x -> x.row(0, lane, 1));
            refused.bad("row(0, " + lane + ", -1): BAD is ahead of SIZE", x -> x.row(0, lane, -1));
        }
        for (int lane : Refused.ends(0, 2)) {
            refused.allowed("row(0, " + lane + ", 1)", x -> x.row(0, lane, 1));
        }
        for (int n : new int[] {41, Integer.MAX_VALUE}) {
            refused.bad("row(0, 0, " + n + ")", x -> x.row(0, 0, n));
        }
        for (int n : new int[] {-1, Integer.MIN_VALUE}) {
            refused.is("row(0, 0, " + n + ")", x -> x.row(0, 0, n), Due.SIZE);
            refused.is("row(7, 2, " + n + ")", x -> x.row(7, 2, n), Due.SIZE);
        }
        for (int n : Refused.ends(0, 40)) {
            refused.allowed("row(0, 0, " + n + ")", x -> x.row(0, 0, n));
        }
    }

    private void told() {
        for (int letter : Refused.outside(0, 255)) {
            refused.bad("feed(" + letter + ")", x -> x.feed(letter));
        }
        for (int what : Refused.outside(0, 7)) {
            refused.bad("count(" + what + ")", x -> x.count(what));
        }
        for (int i : new int[] {-1, 16, Integer.MIN_VALUE, Integer.MAX_VALUE}) {
            refused.is("trace(" + i + ")", x -> x.trace(i), Due.NONE);
        }
    }

    private void acts() {
        for (int v : Refused.outside(0, visitors - 1)) {
            refused.bad("pose(" + v + ", 1)", x -> x.pose(v, 1));
        }
        for (int set : Refused.outside(0, allSquares)) {
            refused.bad("pose(0, " + set + ")", x -> x.pose(0, set));
        }
        for (int n : Refused.outside(0, 8)) {
            refused.bad("strict(" + n + ")", x -> x.strict(n));
        }
        for (int s : Refused.outside(0, squares - 1)) {
            refused.bad("share(" + s + ", 0)", x -> x.share(s, 0));
            refused.bad("settle(" + s + ")", x -> x.settle(s));
        }
        for (int n : Refused.outside(0, 9)) {
            refused.bad("share(0, " + n + ")", x -> x.share(0, n));
        }
        for (int s = 0; s < 3; s++) {
            int counted = s;
            refused.is("settle(" + s + "), that counts", x -> x.settle(counted), Due.STATE);
            refused.is("needs(" + s + "), that counts", x -> x.needs(counted), Due.STATE);
        }
        int settled = squares == 8 ? 5 : 4;
        refused.is("settle(" + settled + "), settled for good", x -> x.settle(settled), Due.STATE);
        refused.is("needs(" + settled + "), settled for good", x -> x.needs(settled), Due.STATE);
        for (int v : Refused.ends(0, visitors - 1)) {
            for (int set : Refused.ends(0, allSquares)) {
                refused.allowed("pose(" + v + ", " + set + ")", x -> x.pose(v, set));
            }
        }
        for (int n : Refused.ends(0, 8)) {
            refused.allowed("strict(" + n + ")", x -> x.strict(n));
        }
        for (int s : Refused.ends(0, squares - 1)) {
            for (int n : Refused.ends(0, 9)) {
                refused.allowed("share(" + s + ", " + n + ")", x -> x.share(s, n));
            }
        }
    }

    private void squaresAndVisitors() {
        for (int s : Refused.outside(0, squares - 1)) {
            refused.bad("square(" + s + ", 0)", x -> x.square(s, 0));
            refused.bad("sees(0, " + s + ")", x -> x.sees(0, s));
        }
        for (int what : Refused.outside(0, 5)) {
            refused.bad("square(0, " + what + ")", x -> x.square(0, what));
        }
        for (int v : Refused.outside(0, visitors - 1)) {
            refused.bad("visitor(" + v + ", 0)", x -> x.visitor(v, 0));
            refused.bad("sees(" + v + ", 0)", x -> x.sees(v, 0));
            refused.bad("clicks(" + v + ")", x -> x.clicks(v));
        }
        for (int what : Refused.outside(0, 3)) {
            refused.bad("visitor(0, " + what + ")", x -> x.visitor(0, what));
        }
        for (int s : Refused.ends(0, squares - 1)) {
            refused.allowed("square(" + s + ", 5)", x -> x.square(s, 5));
            refused.allowed("sees(" + (visitors - 1) + ", " + s + ")", x -> x.sees(visitors - 1, s));
        }
        refused.allowed("visitor(" + (visitors - 1) + ", 3)", x -> x.visitor(visitors - 1, 3));
        refused.allowed("clicks(" + (visitors - 1) + ")", x -> x.clicks(visitors - 1));
    }

    private void foretoldOfSets() {
        for (int set : Refused.outside(0, allSquares)) {
            refused.bad("wrong(0, " + set + ")", x -> x.wrong(0, set));
            refused.bad("guests(" + set + ")", x -> x.guests(set));
            refused.bad("harsh(0, " + set + ")", x -> x.harsh(0, set));
            refused.bad("tells(" + set + ", 0)", x -> x.tells(set, 0));
            refused.bad("save(" + set + ", 0)", x -> x.save(set, 0));
        }
        for (int v : Refused.outside(0, visitors - 1)) {
            refused.bad("wrong(" + v + ", 0)", x -> x.wrong(v, 0));
        }
        for (int told : Refused.outside(0, allVisitors)) {
            refused.bad("fewest(" + told + ", 0)", x -> x.fewest(told, 0));
            refused.bad("harsh(" + told + ", 0)", x -> x.harsh(told, 0));
        }
        for (int what : Refused.outside(0, 1)) {
            refused.bad("fewest(0, " + what + ")", x -> x.fewest(0, what));
            refused.bad("keen(" + what + ")", x -> x.keen(what));
            refused.bad("tells(0, " + what + ")", x -> x.tells(0, what));
            refused.bad("save(0, " + what + ")", x -> x.save(0, what));
        }
        for (int what : Refused.ends(0, 1)) {
            refused.allowed("fewest(all, " + what + ")", x -> x.fewest(allVisitors, what));
            refused.allowed("keen(" + what + ")", x -> x.keen(what));
            refused.allowed("tells(all, " + what + ")", x -> x.tells(allSquares, what));
            refused.allowed("save(all, " + what + ")", x -> x.save(allSquares, what));
        }
        refused.allowed("wrong(last, all)", x -> x.wrong(visitors - 1, allSquares));
        refused.allowed("guests(all)", x -> x.guests(allSquares));
        refused.allowed("harsh(all, all)", x -> x.harsh(allVisitors, allSquares));
    }

    private void foretoldOfSquares() {
        for (int s : Refused.outside(0, squares - 1)) {
            refused.bad("learned(" + s + ")", x -> x.learned(s));
            refused.bad("needs(" + s + ")", x -> x.needs(s));
        }
        refused.allowed("learned(last)", x -> x.learned(squares - 1));
        refused.allowed("needs(3)", x -> x.needs(3));
    }

    private void foretoldOfRows() {
        for (int s : Refused.outside(0, squares - 1)) {
            refused.bad("shares(" + s + ", 0, 0)", x -> x.shares(s, 0, 0));
            refused.bad("kinds(" + s + ", 0, 0)", x -> x.kinds(s, 0, 0));
            refused.bad("shares(" + s + ", 7, -1): BAD is ahead", x -> x.shares(s, 7, -1));
            refused.bad("kinds(" + s + ", 7, -1): BAD is ahead", x -> x.kinds(s, 7, -1));
        }
        for (int row : Refused.outside(0, 7)) {
            refused.bad("shares(0, " + row + ", 0)", x -> x.shares(0, row, 0));
            refused.bad("kinds(0, " + row + ", 0)", x -> x.kinds(0, row, 0));
            refused.bad("who(" + row + ", 0)", x -> x.who(row, 0));
            refused.bad("cares(0, " + row + ", 0)", x -> x.cares(0, row, 0));
        }
        for (int ear : Refused.outside(0, 9)) {
            refused.bad("cares(" + ear + ", 0, 0)", x -> x.cares(ear, 0, 0));
            refused.bad("cares(" + ear + ", 7, -1): BAD is ahead", x -> x.cares(ear, 7, -1));
        }
        for (int ear : Refused.ends(0, 9)) {
            refused.allowed("cares(" + ear + ", 3, 0)", x -> x.cares(ear, 3, 0));
        }
        for (int s : Refused.ends(0, squares - 1)) {
            refused.allowed("shares(" + s + ", 3, 0)", x -> x.shares(s, 3, 0));
            refused.allowed("kinds(" + s + ", 3, 0)", x -> x.kinds(s, 3, 0));
        }
        refused.allowed("who(3, 0)", x -> x.who(3, 0));
    }

    private void slip() {
        for (int v : Refused.outside(0, visitors - 1)) {
            refused.bad("slip(" + v + ", 0, 0, 0)", x -> x.slip(v, 0, 0, 0));
        }
        for (int set : Refused.outside(0, allSquares)) {
            refused.bad("slip(0, " + set + ", 0, 0)", x -> x.slip(0, set, 0, 0));
        }
        for (int p : Refused.outside(0, 10)) {
            refused.bad("slip(0, 0, " + p + ", 0)", x -> x.slip(0, 0, p, 0));
        }
        for (int what : Refused.outside(0, 1)) {
            refused.bad("slip(0, 0, 0, " + what + ")", x -> x.slip(0, 0, 0, what));
        }
        for (int p : Refused.ends(0, 10)) {
            for (int what : Refused.ends(0, 1)) {
                refused.allowed("slip(last, all, " + p + ", " + what + ")",
                        x -> x.slip(visitors - 1, allSquares, p, what));
            }
        }
    }

    private void drawn() {
        for (int n : Refused.outside(0, 60)) {
            refused.bad("drawn(" + n + ", 1, 0)", x -> x.drawn(n, 1, 0));
        }
        for (int seed : Refused.outside(1, 999999)) {
            refused.bad("drawn(0, " + seed + ", 0)", x -> x.drawn(0, seed, 0));
        }
        for (int what : Refused.outside(0, 1)) {
            refused.bad("drawn(0, 1, " + what + ")", x -> x.drawn(0, 1, what));
        }
        for (int n : Refused.ends(0, 60)) {
            for (int seed : Refused.ends(1, 999999)) {
                refused.allowed("drawn(" + n + ", " + seed + ", 1)", x -> x.drawn(n, seed, 1));
            }
        }
    }

    private void images() {
        for (int k : Refused.outside(0, 1)) {
            refused.bad("image(" + k + ")", x -> x.image(k));
            refused.bad("restore(" + k + ")", x -> x.restore(k));
        }
        for (int k : Refused.ends(0, 1)) {
            refused.allowed("image(" + k + ")", x -> x.image(k));
        }
        if (squares == 5) {
            refused.is("restore(0), that was not kept", x -> x.restore(0), Due.STATE);
        }
        refused.allowed("restore(1), that was kept", x -> x.restore(1));
    }

    private void asked() {
        for (int s : Refused.outside(0, squares - 1)) {
            refused.bad("kind(" + s + ")", x -> x.kind(s));
            refused.bad("as(" + s + ", 0)", x -> x.as(s, 0));
            refused.bad("ask(" + s + ", 0): the trace stays", x -> x.ask(s, 0));
        }
        for (int kind : Refused.outside(0, 5)) {
            refused.bad("as(0, " + kind + ")", x -> x.as(0, kind));
        }
        for (int what : Refused.outside(0, 1)) {
            refused.bad("ask(0, " + what + "): the trace stays", x -> x.ask(0, what));
        }
        refused.allowed("kind(last)", x -> x.kind(squares - 1));
        refused.allowed("as(last, 0)", x -> x.as(squares - 1, 0));
        refused.allowed("as(4, 5)", x -> x.as(4, 5));
        for (int what : Refused.ends(0, 1)) {
            refused.allowed("ask(last, " + what + ")", x -> x.ask(squares - 1, what));
        }
    }

    // ---- findings: row 0 has three bytes, 1 five bytes, 2 no ints, 3 forty shorts, 7 is missing

    private void rowsThatAreFound() {
        missingRows();
        otherLanes();
        noSuchPlaces();
        noSuchPlacesOfWhatIsRead();
    }

    private void missingRows() {
        for (int i : ANY) {
            refused.is("set(7, " + i + ", 1): NULL is ahead of PLACE", x -> x.set(7, i, 1), Due.NULL);
            refused.is("copy(7, " + i + ", 0, 0, 1)", x -> x.copy(7, i, 0, 0, 1), Due.NULL);
            refused.is("copy(0, 0, 7, " + i + ", 1)", x -> x.copy(0, 0, 7, i, 1), Due.NULL);
            refused.is("copy(7, 0, 7, 0, " + i + ")", x -> x.copy(7, 0, 7, 0, i), Due.NULL);
            refused.is("shares(0, 7, " + i + ")", x -> x.shares(0, 7, i), Due.NULL);
            refused.is("kinds(0, 7, " + i + ")", x -> x.kinds(0, 7, i), Due.NULL);
            refused.is("who(7, " + i + ")", x -> x.who(7, i), Due.NULL);
            refused.is("cares(0, 7, " + i + ")", x -> x.cares(0, 7, i), Due.NULL);
        }
        refused.is("drop(7)", x -> x.drop(7), Due.NULL);
    }

    private void otherLanes() {
        for (int i : ANY) {
            refused.is("copy(0, " + i + ", 3, 0, 0): STORE is ahead of PLACE", x -> x.copy(0, i, 3, 0, 0), Due.STORE);
            refused.is("copy(3, 0, 0, " + i + ", 0): STORE is ahead of PLACE", x -> x.copy(3, 0, 0, i, 0), Due.STORE);
            refused.is("copy(2, 0, 3, 0, " + i + "): STORE is ahead of PLACE", x -> x.copy(2, 0, 3, 0, i), Due.STORE);
        }
    }

    private void noSuchPlaces() {
        for (int i : Refused.outside(0, 2)) {
            refused.is("set(0, " + i + ", 0)", x -> x.set(0, i, 0), Due.PLACE);
            refused.is("copy(0, " + i + ", 1, 0, 1)", x -> x.copy(0, i, 1, 0, 1), Due.PLACE);
            refused.is("copy(1, 0, 0, " + i + ", 1)", x -> x.copy(1, 0, 0, i, 1), Due.PLACE);
        }
        for (int i : Refused.outside(0, 39)) {
            refused.is("set(3, " + i + ", 1)", x -> x.set(3, i, 1), Due.PLACE);
        }
        for (int i : ANY) {
            refused.is("set(2, " + i + ", 1): it is empty", x -> x.set(2, i, 1), Due.PLACE);
        }
        for (int n : Refused.outside(0, 3)) {
            refused.is("copy(0, 0, 1, 0, " + n + ")", x -> x.copy(0, 0, 1, 0, n), Due.PLACE);
            refused.is("copy(1, 0, 0, 0, " + n + ")", x -> x.copy(1, 0, 0, 0, n), Due.PLACE);
        }
        for (int n : Refused.outside(0, 2)) {
            refused.is("copy(0, 1, 1, 0, " + n + ")", x -> x.copy(0, 1, 1, 0, n), Due.PLACE);
            refused.is("copy(1, 0, 0, 1, " + n + ")", x -> x.copy(1, 0, 0, 1, n), Due.PLACE);
        }
        for (int i : Refused.outside(0, 3)) {
            refused.is("copy(0, " + i + ", 1, 0, 0)", x -> x.copy(0, i, 1, 0, 0), Due.PLACE);
            refused.is("copy(1, 0, 0, " + i + ", 0)", x -> x.copy(1, 0, 0, i, 0), Due.PLACE);
        }
        refused.is("copy(2, 0, 2, 0, 1): it is empty", x -> x.copy(2, 0, 2, 0, 1), Due.PLACE);
    }

    /** As many items as visitors (3) or squares (5) have to be there: row 3 has forty, 0 three, 1 five, 2 none. */
    private void noSuchPlacesOfWhatIsRead() {
        for (int i : Refused.outside(0, 37)) {
            refused.is("shares(0, 3, " + i + ")", x -> x.shares(0, 3, i), Due.PLACE);
            refused.is("kinds(0, 3, " + i + ")", x -> x.kinds(0, 3, i), Due.PLACE);
        }
        for (int i : Refused.outside(0, 35)) {
            refused.is("who(3, " + i + ")", x -> x.who(3, i), Due.PLACE);
            refused.is("cares(0, 3, " + i + ")", x -> x.cares(0, 3, i), Due.PLACE);
        }
        for (int i : Refused.outside(0, 0)) {
            refused.is("shares(0, 0, " + i + ")", x -> x.shares(0, 0, i), Due.PLACE);
            refused.is("kinds(0, 0, " + i + ")", x -> x.kinds(0, 0, i), Due.PLACE);
            refused.is("who(1, " + i + ")", x -> x.who(1, i), Due.PLACE);
            refused.is("cares(9, 1, " + i + ")", x -> x.cares(9, 1, i), Due.PLACE);
        }
        for (int i : ANY) {
            refused.is("shares(0, 2, " + i + "): it is empty", x -> x.shares(0, 2, i), Due.PLACE);
            refused.is("kinds(0, 2, " + i + "): it is empty", x -> x.kinds(0, 2, i), Due.PLACE);
            refused.is("who(0, " + i + "): it is too short", x -> x.who(0, i), Due.PLACE);
            refused.is("cares(0, 0, " + i + "): it is too short", x -> x.cares(0, 0, i), Due.PLACE);
        }
        for (int i : Refused.ends(0, 37)) {
            refused.allowed("shares(0, 3, " + i + ")", x -> x.shares(0, 3, i));
            refused.allowed("kinds(0, 3, " + i + ")", x -> x.kinds(0, 3, i));
        }
        for (int i : Refused.ends(0, 35)) {
            refused.allowed("who(3, " + i + ")", x -> x.who(3, i));
            refused.allowed("cares(0, 3, " + i + ")", x -> x.cares(0, 3, i));
        }
    }

    private void kindsThatAreFound() {
        String[] isNot = {"2345", "345", "245", "1235", "123"};
        for (int one = 0; one < 5; one++) {
            for (int i = 0; i < isNot[one].length(); i++) {
                int square = one;
                int kind = isNot[one].charAt(i) - '0';
                refused.is("as(" + one + ", " + kind + ")", x -> x.as(square, kind), Due.KIND);
            }
        }
    }
}
