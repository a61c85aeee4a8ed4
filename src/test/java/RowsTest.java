/** Promises 1 to 5, 40, and what of 39 tells of rows. */
public final class RowsTest {
    private static final Due due = new Due("RowsTest");
    private static final int LEAST = Integer.MIN_VALUE, MOST = Integer.MAX_VALUE;

    public static void main(String[] args) {
        aNewObject();
        row();
        set();
        copy();
        drop();
        status();
        due.end();
    }

    private static void aNewObject() {
        LampSquares x = new LampSquares();
        for (int what = 0; what <= 7; what++) {
            due.is("count(" + what + ")", x.count(what), 0);
        }
        due.is("fault()", x.fault(), 0);
        due.is("status()", x.status(), 0);
        due.is("undo()", x.undo(), Due.STATE);
        due.is("trace(0)", x.trace(0), Due.NONE);
        due.is("restore(1)", x.restore(1), Due.STATE);
        for (int row = 0; row < 8; row++) {
            due.is("drop(" + row + ")", x.drop(row), Due.NULL);
        }
    }

    private static void row() {
        LampSquares x = new LampSquares();
        due.is("row(0, 0, 0)", x.row(0, 0, 0), 0);
        due.is("count(0)", x.count(0), 1);
        due.is("row(7, 2, 40)", x.row(7, 2, 40), 40);
        due.is("count(0)", x.count(0), 2);
        due.is("set(7, 39, 5)", x.set(7, 39, 5), 5);
        due.is("row(-1, 0, 1)", x.row(-1, 0, 1), Due.BAD);
        due.is("row(8, 0, 1)", x.row(8, 0, 1), Due.BAD);
        due.is("row(0, -1, 1)", x.row(0, -1, 1), Due.BAD);
        due.is("row(0, 3, 1)", x.row(0, 3, 1), Due.BAD);
        due.is("row(7, 2, 41)", x.row(7, 2, 41), Due.BAD);
        due.is("row(7, 2, MOST)", x.row(7, 2, MOST), Due.BAD);
        due.is("row(7, 3, -1): BAD is ahead of SIZE", x.row(7, 3, -1), Due.BAD);
        due.is("row(7, 0, -1)", x.row(7, 0, -1), Due.SIZE);
        due.is("row(7, 0, LEAST)", x.row(7, 0, LEAST), Due.SIZE);
        due.is("row(1, 1, -1)", x.row(1, 1, -1), Due.SIZE);
        due.is("a refused row is not there", x.drop(1), Due.NULL);
        due.is("row(6, 2, 40)", x.row(6, 2, 40), 40);
        due.is("copy(7, 39, 6, 0, 1)", x.copy(7, 39, 6, 0, 1), 1);
        due.is("what was there stays", x.set(7, 38, 70000), 70000);
        due.is("row(7, 1, 3) in place of it", x.row(7, 1, 3), 3);
        due.is("set(7, 3, 1)", x.set(7, 3, 1), Due.PLACE);
        due.is("count(0)", x.count(0), 3);
        itemsAreNoneAtFirst();
    }

    private static void itemsAreNoneAtFirst() {
        LampSquares x = Due.at("d1,0;k0;v9,0;");
        Due.tell(x, 0, 1);
        due.is("shares of a click", x.shares(0, 0, 0), 1022);
        x.row(0, 0, 1);
        due.is("shares of no click, as the row is new", x.shares(0, 0, 0), 1);
    }

    private static void set() {
        LampSquares x = new LampSquares();
        due.is("set(8, 0, 0)", x.set(8, 0, 0), Due.BAD);
        due.is("set(-1, 0, 0)", x.set(-1, 0, 0), Due.BAD);
        due.is("set(0, -1, 0): NULL is ahead of PLACE", x.set(0, -1, 0), Due.NULL);
        x.row(0, 0, 2);
        x.row(1, 1, 2);
        x.row(2, 2, 2);
        due.is("a byte", x.set(0, 1, 127), 127);
        due.is("a byte", x.set(0, 1, 128), -128);
        due.is("a byte", x.set(0, 1, -129), 127);
        due.is("a byte", x.set(0, 1, 256), 0);
        due.is("a short", x.set(1, 0, 32767), 32767);
        due.is("a short", x.set(1, 0, 32768), -32768);
        due.is("a short", x.set(1, 0, 65536 + 7), 7);
        due.is("an int", x.set(2, 0, MOST), MOST);
        due.is("an int", x.set(2, 1, LEAST), LEAST);
        due.is("set(0, 2, 1)", x.set(0, 2, 1), Due.PLACE);
        due.is("set(0, -1, 1)", x.set(0, -1, 1), Due.PLACE);
        due.is("set(0, MOST, 1)", x.set(0, MOST, 1), Due.PLACE);
        due.is("set(0, LEAST, 1)", x.set(0, LEAST, 1), Due.PLACE);
    }

    private static void copy() {
        LampSquares x = new LampSquares();
        x.row(0, 0, 3);
        due.is("copy(8, 0, 0, 0, 0)", x.copy(8, 0, 0, 0, 0), Due.BAD);
        due.is("copy(0, 0, -1, 0, 0)", x.copy(0, 0, -1, 0, 0), Due.BAD);
        due.is("copy(0, 0, 1, 0, 9): NULL is ahead of PLACE", x.copy(0, 0, 1, 0, 9), Due.NULL);
        due.is("copy(1, 0, 0, 0, 0)", x.copy(1, 0, 0, 0, 0), Due.NULL);
        x.row(1, 1, 3);
        due.is("copy(0, 9, 1, 0, 1): STORE is ahead of PLACE", x.copy(0, 9, 1, 0, 1), Due.STORE);
        x.row(2, 0, 2);
        due.is("copy(0, 0, 2, 0, 2)", x.copy(0, 0, 2, 0, 2), 2);
        due.is("copy(0, 3, 2, 2, 0)", x.copy(0, 3, 2, 2, 0), 0);
        due.is("copy(0, 0, 2, 0, 3)", x.copy(0, 0, 2, 0, 3), Due.PLACE);
        due.is("copy(2, 0, 0, 0, 3)", x.copy(2, 0, 0, 0, 3), Due.PLACE);
        due.is("copy(0, 4, 2, 0, 0)", x.copy(0, 4, 2, 0, 0), Due.PLACE);
        due.is("copy(0, 0, 2, 3, 0)", x.copy(0, 0, 2, 3, 0), Due.PLACE);
        due.is("copy(0, -1, 2, 0, 1)", x.copy(0, -1, 2, 0, 1), Due.PLACE);
        due.is("copy(0, 0, 2, -1, 1)", x.copy(0, 0, 2, -1, 1), Due.PLACE);
        due.is("copy(0, 1, 2, 1, -1)", x.copy(0, 1, 2, 1, -1), Due.PLACE);
        due.is("copy(0, MOST, 2, 0, MOST)", x.copy(0, MOST, 2, 0, MOST), Due.PLACE);
        due.is("copy(0, 1, 2, 1, MOST)", x.copy(0, 1, 2, 1, MOST), Due.PLACE);
        theItemsComeAsTheyWere();
    }

    /** What a row holds is read by cares: care 8 clicks shares of 2 and more, and so on. */
    private static void theItemsComeAsTheyWere() {
        LampSquares x = Due.at("d1,0;k1;k2;k3;v0,0;");
        Due.tell(x, 0, 0, 1, 1, 0, 1);
        due.is("cares(0, 0, 0)", x.cares(0, 0, 0), 1 << 8);
        due.is("cares(0, 0, 1)", x.cares(0, 0, 1), 0);
        due.is("copy(0, 0, 0, 1, 3) onto itself", x.copy(0, 0, 0, 1, 3), 3);
        due.is("0 0 1 1 1", x.cares(0, 0, 0), 1 << 7);
        due.is("0 0 1 1 1", x.cares(0, 0, 1), 1 << 8);
        due.is("0 0 1 1 1", x.cares(0, 0, 2), 1 << 9);
        due.is("copy(0, 2, 0, 1, 3) onto itself", x.copy(0, 2, 0, 1, 3), 3);
        due.is("0 1 1 1 1", x.cares(0, 0, 0), 1 << 8);
    }

    private static void drop() {
        LampSquares x = new LampSquares();
        due.is("drop(-1)", x.drop(-1), Due.BAD);
        due.is("drop(8)", x.drop(8), Due.BAD);
        due.is("drop(3)", x.drop(3), Due.NULL);
        x.row(3, 2, 17);
        x.row(4, 2, 0);
        due.is("count(0)", x.count(0), 2);
        due.is("drop(3)", x.drop(3), 17);
        due.is("drop(3) again", x.drop(3), Due.NULL);
        due.is("drop(4)", x.drop(4), 0);
        due.is("set(3, 0, 0)", x.set(3, 0, 0), Due.NULL);
        due.is("count(0)", x.count(0), 0);
    }

    private static void status() {
        LampSquares x = Due.at("d1,0;k0;v9,0;");
        due.is("status()", x.status(), 0);
        x.set(0, 0, 0);
        due.is("status() of NULL", x.status(), 1);
        x.row(9, 0, 0);
        x.set(9, 0, 0);
        x.drop(9);
        x.copy(9, 0, 0, 0, 0);
        x.shares(9, 0, 0);
        x.kinds(0, 9, 0);
        x.who(9, 0);
        x.cares(10, 0, 0);
        x.as(0, 6);
        x.guests(0);
        x.count(0);
        due.is("status(): what was BAD, or has no row, changes nothing", x.status(), 1);
        x.row(0, 0, 1);
        due.is("status() of none", x.status(), 0);
        x.set(0, 1, 0);
        due.is("status() of PLACE", x.status(), 2);
        x.set(0, 0, 0);
        due.is("status() of none", x.status(), 0);
        x.as(0, 4);
        due.is("status() of KIND", x.status(), 3);
        x.as(0, 1);
        due.is("status() of none", x.status(), 0);
        x.row(0, 0, -1);
        due.is("status() of SIZE", x.status(), 4);
        x.copy(0, 0, 0, 0, 1);
        due.is("status() of none", x.status(), 0);
        x.row(1, 1, 1);
        x.copy(0, 0, 1, 0, 1);
        due.is("status() of STORE", x.status(), 5);
        x.drop(1);
        due.is("status() of none", x.status(), 0);
        x.drop(1);
        due.is("status() of NULL", x.status(), 1);
        statusOfRowsThatAreRead(x);
        LampSquares y = new LampSquares();
        y.row(0, 0, -1);
        y.who(0, 0);
        y.cares(0, 0, 0);
        due.is("status(): what was STATE changes nothing", y.status(), 4);
    }

    private static void statusOfRowsThatAreRead(LampSquares x) {
        x.shares(0, 0, 0);
        due.is("status() after shares", x.status(), 0);
        x.shares(0, 0, 1);
        due.is("status() after shares", x.status(), 2);
        x.kinds(0, 0, 0);
        due.is("status() after kinds", x.status(), 0);
        x.kinds(0, 1, 0);
        due.is("status() after kinds", x.status(), 1);
        x.who(0, 0);
        due.is("status() after who", x.status(), 0);
        x.who(0, -1);
        due.is("status() after who", x.status(), 2);
        x.cares(0, 0, 0);
        due.is("status() after cares", x.status(), 0);
        x.cares(0, 1, 0);
        due.is("status() after cares", x.status(), 1);
    }
}
