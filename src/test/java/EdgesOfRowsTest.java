/** Promises 1 to 5 and 40, by the sentences of the document that name a boundary case: each has a test of its own. */
public final class EdgesOfRowsTest {
    private static final Due due = new Due("EdgesOfRowsTest");
    private static final int LEAST = Integer.MIN_VALUE, MOST = Integer.MAX_VALUE;

    public static void main(String[] args) {
        rowsAreMissingAtFirst();
        eachRowIsItsOwn();
        zeroToFortyItems();
        itemsAreZeroAtFirst();
        aRowComesInPlaceOfWhatIsThere();
        lowestBitsOfABytes();
        lowestBitsOfAShorts();
        lowestBitsOfAnInts();
        theLowestBitsAreKept();
        copyOfNone();
        copyUpToTheEnds();
        copyAsTheyWereAhead();
        copyLeavesTheOthers();
        placesThatPassTheGreatestInt();
        dropTellsHowManyItHad();
        statusOfNoCall();
        statusOfEachFinding();
        statusOfNoFinding();
        statusOfTheFirstOfSeveral();
        statusStaysByCallsWithoutARow();
        due.end();
    }

    /** What shares tells of one item, at a door with one visitor, who clicks from SHARE 1 on. */
    private static final int ZERO = 1, ONE = 1022, NEITHER = 0;

    private static LampSquares reader() {
        return Due.at("d1,0;k0;v9,0;");
    }

    private static void item(LampSquares x, int row, int i, int told) {
        due.is("item " + i + " of row " + row, x.shares(0, row, i), told);
    }

    /** "ROWS 0 .. 7 are missing (at first)". */
    private static void rowsAreMissingAtFirst() {
        LampSquares x = reader();
        x.row(7, 0, 8);
        x.drop(7);
        for (int row = 0; row < 8; row++) {
            due.is("set(" + row + ", 0, 0)", x.set(row, 0, 0), Due.NULL);
            due.is("copy(" + row + ", 0, " + row + ", 0, 0)", x.copy(row, 0, row, 0, 0), Due.NULL);
            due.is("shares(0, " + row + ", 0)", x.shares(0, row, 0), Due.NULL);
            due.is("kinds(0, " + row + ", 0)", x.kinds(0, row, 0), Due.NULL);
            due.is("who(" + row + ", 0)", x.who(row, 0), Due.NULL);
            due.is("cares(0, " + row + ", 0)", x.cares(0, row, 0), Due.NULL);
            due.is("drop(" + row + ")", x.drop(row), Due.NULL);
        }
        due.is("count(0)", x.count(0), 0);
    }

    /** "ROWS 0 .. 7": eight of them, and none stands for another. */
    private static void eachRowIsItsOwn() {
        LampSquares x = new LampSquares();
        for (int row = 0; row < 8; row++) {
            due.is("row(" + row + ")", x.row(row, row % 3, row + 1), row + 1);
            due.is("count(0)", x.count(0), row + 1);
        }
        due.is("row(8, 0, 1), the ninth", x.row(8, 0, 1), Due.BAD);
        due.is("count(0)", x.count(0), 8);
        for (int row = 7; row >= 0; row--) {
            due.is("set at the last of row " + row, x.set(row, row, 1), 1);
            due.is("set behind the last of row " + row, x.set(row, row + 1, 1), Due.PLACE);
            due.is("drop(" + row + ")", x.drop(row), row + 1);
            due.is("count(0)", x.count(0), row);
        }
    }

    /** "0 to 40 ITEMS"; an empty row is there, and has no place. */
    private static void zeroToFortyItems() {
        LampSquares x = new LampSquares();
        due.is("row(0, 0, 0)", x.row(0, 0, 0), 0);
        due.is("an empty row is there", x.count(0), 1);
        due.is("set(0, 0, 1) of an empty row", x.set(0, 0, 1), Due.PLACE);
        due.is("row(0, 0, 1)", x.row(0, 0, 1), 1);
        due.is("set(0, 0, 1)", x.set(0, 0, 1), 1);
        due.is("set(0, 1, 1)", x.set(0, 1, 1), Due.PLACE);
        due.is("row(0, 0, 39)", x.row(0, 0, 39), 39);
        due.is("set(0, 38, 1)", x.set(0, 38, 1), 1);
        due.is("set(0, 39, 1)", x.set(0, 39, 1), Due.PLACE);
        due.is("row(0, 0, 40)", x.row(0, 0, 40), 40);
        due.is("set(0, 39, 1)", x.set(0, 39, 1), 1);
        due.is("set(0, 40, 1)", x.set(0, 40, 1), Due.PLACE);
        due.is("row(0, 0, 41)", x.row(0, 0, 41), Due.BAD);
        due.is("row(0, 0, -1)", x.row(0, 0, -1), Due.SIZE);
        due.is("the row of forty stays", x.drop(0), 40);
    }

    /** "0 at first": each item of a new row, whatever stood there. */
    private static void itemsAreZeroAtFirst() {
        LampSquares x = reader();
        x.row(7, 2, 40);
        for (int i = 0; i < 40; i++) {
            item(x, 7, i, ZERO);
            x.set(7, i, 1);
        }
        due.is("row(7, 2, 0)", x.row(7, 2, 0), 0);
        due.is("row(7, 2, 40)", x.row(7, 2, 40), 40);
        for (int i = 0; i < 40; i++) {
            item(x, 7, i, ZERO);
            x.set(7, i, 1);
        }
        x.drop(7);
        x.row(7, 0, 40);
        for (int i = 0; i < 40; i++) {
            item(x, 7, i, ZERO);
        }
    }

    /** "A ROW of a LANE with n ITEMS, in place of what is there: n." */
    private static void aRowComesInPlaceOfWhatIsThere() {
        LampSquares x = reader();
        x.row(0, 2, 5);
        due.is("an int", x.set(0, 4, 300), 300);
        due.is("row(0, 0, 2)", x.row(0, 0, 2), 2);
        due.is("the lane is the new one", x.set(0, 1, 300), 44);
        due.is("the length is the new one", x.set(0, 2, 1), Due.PLACE);
        due.is("count(0)", x.count(0), 1);
        due.is("row(0, 1, 6)", x.row(0, 1, 6), 6);
        due.is("the lane is the new one", x.set(0, 5, 70000), 4464);
        due.is("drop(0)", x.drop(0), 6);
    }

    /** "ITEM i becomes v, its lowest bits, as many as the LANE has": 8 of a byte. */
    private static void lowestBitsOfABytes() {
        LampSquares x = new LampSquares();
        x.row(0, 0, 1);
        int[] told = {-128, -1, 0, 1, 127, 128, -129, 255, 256, -256, 257, 32767, MOST, LEAST, LEAST + 1};
        int[] kept = {-128, -1, 0, 1, 127, -128, 127, -1, 0, 0, 1, -1, -1, 0, 1};
        for (int i = 0; i < told.length; i++) {
            due.is("the byte of " + told[i], x.set(0, 0, told[i]), kept[i]);
        }
    }

    /** "its lowest bits, as many as the LANE has": 16 of a short. */
    private static void lowestBitsOfAShorts() {
        LampSquares x = new LampSquares();
        x.row(0, 1, 1);
        int[] told = {-32768, -1, 0, 127, 128, 255, 32767, 32768, -32769, 65535, 65536, 65537, MOST, LEAST, LEAST + 1};
        int[] kept = {-32768, -1, 0, 127, 128, 255, 32767, -32768, 32767, -1, 0, 1, -1, 0, 1};
        for (int i = 0; i < told.length; i++) {
            due.is("the short of " + told[i], x.set(0, 0, told[i]), kept[i]);
        }
    }

    /** "its lowest bits, as many as the LANE has": all of an int. */
    private static void lowestBitsOfAnInts() {
        LampSquares x = new LampSquares();
        x.row(0, 2, 1);
        for (int v : new int[] {LEAST, LEAST + 1, -32769, -129, -1, 0, 1, 128, 256, 32768, 65536, MOST - 1, MOST}) {
            due.is("the int " + v, x.set(0, 0, v), v);
        }
    }

    /** "what it is then": the item is what was answered, not what was told. */
    private static void theLowestBitsAreKept() {
        LampSquares x = reader();
        int[] ends = {256, 65536, 1 << 24};
        for (int lane = 0; lane < 3; lane++) {
            x.row(lane, lane, 1);
            x.set(lane, 0, ends[lane] + 1);
            item(x, lane, 0, lane < 2 ? ONE : NEITHER);
            x.set(lane, 0, ends[lane]);
            item(x, lane, 0, lane < 2 ? ZERO : NEITHER);
            x.set(lane, 0, -1);
            item(x, lane, 0, NEITHER);
            x.set(lane, 0, 1);
            item(x, lane, 0, ONE);
        }
    }

    /** "PLACE (i, j, n below 0, or beyond an end)": none is no place too many, also at the very end. */
    private static void copyOfNone() {
        LampSquares x = new LampSquares();
        x.row(0, 0, 3);
        x.row(1, 0, 0);
        x.row(2, 0, 40);
        due.is("copy(0, 0, 1, 0, 0)", x.copy(0, 0, 1, 0, 0), 0);
        due.is("copy(0, 3, 1, 0, 0)", x.copy(0, 3, 1, 0, 0), 0);
        due.is("copy(1, 0, 0, 3, 0)", x.copy(1, 0, 0, 3, 0), 0);
        due.is("copy(1, 0, 1, 0, 0)", x.copy(1, 0, 1, 0, 0), 0);
        due.is("copy(2, 40, 0, 3, 0)", x.copy(2, 40, 0, 3, 0), 0);
        due.is("copy(0, 4, 1, 0, 0)", x.copy(0, 4, 1, 0, 0), Due.PLACE);
        due.is("copy(1, 0, 0, 4, 0)", x.copy(1, 0, 0, 4, 0), Due.PLACE);
        due.is("copy(1, 1, 0, 0, 0)", x.copy(1, 1, 0, 0, 0), Due.PLACE);
        due.is("copy(0, 0, 1, 1, 0)", x.copy(0, 0, 1, 1, 0), Due.PLACE);
        due.is("copy(2, 41, 0, 0, 0)", x.copy(2, 41, 0, 0, 0), Due.PLACE);
        due.is("copy(0, -1, 1, 0, 0)", x.copy(0, -1, 1, 0, 0), Due.PLACE);
        due.is("copy(0, 0, 1, -1, 0)", x.copy(0, 0, 1, -1, 0), Due.PLACE);
        due.is("copy(0, 0, 1, 0, -1)", x.copy(0, 0, 1, 0, -1), Due.PLACE);
    }

    /** "or beyond an end": up to the end of each of both, and one beyond. */
    private static void copyUpToTheEnds() {
        LampSquares x = reader();
        x.row(0, 1, 40);
        x.row(1, 1, 40);
        x.row(2, 1, 39);
        for (int i = 0; i < 40; i++) {
            x.set(0, i, i % 2);
        }
        due.is("copy(0, 0, 1, 0, 40)", x.copy(0, 0, 1, 0, 40), 40);
        due.is("copy(0, 0, 1, 0, 41)", x.copy(0, 0, 1, 0, 41), Due.PLACE);
        due.is("copy(0, 0, 2, 0, 40)", x.copy(0, 0, 2, 0, 40), Due.PLACE);
        due.is("copy(2, 0, 0, 0, 40)", x.copy(2, 0, 0, 0, 40), Due.PLACE);
        due.is("copy(0, 1, 2, 0, 39)", x.copy(0, 1, 2, 0, 39), 39);
        due.is("copy(0, 1, 1, 0, 40)", x.copy(0, 1, 1, 0, 40), Due.PLACE);
        due.is("copy(0, 0, 1, 1, 40)", x.copy(0, 0, 1, 1, 40), Due.PLACE);
        due.is("copy(0, 39, 1, 0, 1)", x.copy(0, 39, 1, 0, 1), 1);
        due.is("copy(0, 0, 1, 39, 1)", x.copy(0, 0, 1, 39, 1), 1);
        due.is("copy(0, 39, 1, 0, 2)", x.copy(0, 39, 1, 0, 2), Due.PLACE);
        due.is("copy(0, 0, 1, 39, 2)", x.copy(0, 0, 1, 39, 2), Due.PLACE);
        for (int i = 0; i < 40; i++) {
            item(x, 1, i, i == 0 || i % 2 == 1 && i != 39 ? ONE : ZERO);
            if (i < 39) {
                item(x, 2, i, i % 2 == 0 ? ONE : ZERO);
            }
        }
    }

    /** "as they were ahead": onto itself, forwards, backwards, in place, and next to it. */
    private static void copyAsTheyWereAhead() {
        int[][] runs = {{0, 1, 5}, {0, 2, 4}, {1, 0, 5}, {2, 0, 4}, {0, 0, 6}, {0, 3, 3}, {3, 0, 3}, {0, 5, 1}, {5, 0, 1}};
        for (int[] run : runs) {
            LampSquares x = reader();
            int[] items = {1, 0, 0, 1, 1, 0};
            Due.tell(x, 4, items);
            String call = "copy(4, " + run[0] + ", 4, " + run[1] + ", " + run[2] + ")";
            due.is(call, x.copy(4, run[0], 4, run[1], run[2]), run[2]);
            int[] then = items.clone();
            for (int i = 0; i < run[2]; i++) {
                then[run[1] + i] = items[run[0] + i];
            }
            for (int i = 0; i < 6; i++) {
                item(x, 4, i, then[i] == 1 ? ONE : ZERO);
            }
        }
    }

    /** "n ITEMS of a from i on come to b from j on": no more, no fewer, and a stays. */
    private static void copyLeavesTheOthers() {
        LampSquares x = reader();
        Due.tell(x, 0, 1, 1, 1, 1, 1);
        Due.tell(x, 1, 0, 0, 0, 0, 0);
        due.is("copy(0, 1, 1, 2, 2)", x.copy(0, 1, 1, 2, 2), 2);
        int[] then = {ZERO, ZERO, ONE, ONE, ZERO};
        for (int i = 0; i < 5; i++) {
            item(x, 0, i, ONE);
            item(x, 1, i, then[i]);
        }
        due.is("copy(1, 0, 0, 4, 1)", x.copy(1, 0, 0, 4, 1), 1);
        item(x, 0, 3, ONE);
        item(x, 0, 4, ZERO);
    }

    /** A place and how many, added, pass the greatest int: beyond the end all the same. */
    private static void placesThatPassTheGreatestInt() {
        LampSquares x = new LampSquares();
        x.row(0, 0, 3);
        int[] far = {MOST, MOST - 1, MOST - 2, LEAST, LEAST + 1, LEAST + 3};
        for (int i : far) {
            for (int n : far) {
                due.is("copy(0, " + i + ", 0, 0, " + n + ")", x.copy(0, i, 0, 0, n), Due.PLACE);
                due.is("copy(0, 0, 0, " + i + ", " + n + ")", x.copy(0, 0, 0, i, n), Due.PLACE);
            }
            due.is("copy(0, 1, 0, 1, " + i + ")", x.copy(0, 1, 0, 1, i), Due.PLACE);
            due.is("copy(0, 3, 0, 3, " + i + ")", x.copy(0, 3, 0, 3, i), Due.PLACE);
            due.is("copy(0, " + i + ", 0, " + i + ", 1)", x.copy(0, i, 0, i, 1), Due.PLACE);
            due.is("set(0, " + i + ", 1)", x.set(0, i, 1), Due.PLACE);
        }
        LampSquares y = Due.at(Due.SIX);
        y.row(0, 0, 40);
        for (int i : far) {
            due.is("shares(0, 0, " + i + ")", y.shares(0, 0, i), Due.PLACE);
            due.is("kinds(0, 0, " + i + ")", y.kinds(0, 0, i), Due.PLACE);
            due.is("who(0, " + i + ")", y.who(0, i), Due.PLACE);
            due.is("cares(0, 0, " + i + ")", y.cares(0, 0, i), Due.PLACE);
        }
    }

    /** "A ROW is missing from now on: how many ITEMS it had." */
    private static void dropTellsHowManyItHad() {
        LampSquares x = new LampSquares();
        for (int n : new int[] {0, 1, 39, 40}) {
            x.row(3, 1, n);
            due.is("drop(3) of " + n, x.drop(3), n);
            due.is("drop(3) again", x.drop(3), Due.NULL);
            due.is("set(3, 0, 0)", x.set(3, 0, 0), Due.NULL);
            due.is("count(0)", x.count(0), 0);
        }
    }

    /** "0: .. there was none": none at all, or none that was not BAD, STATE, FULL. */
    private static void statusOfNoCall() {
        LampSquares x = new LampSquares();
        due.is("status() of a new one", x.status(), 0);
        due.is("row(8, 0, 0)", x.row(8, 0, 0), Due.BAD);
        due.is("set(-1, 0, 0)", x.set(-1, 0, 0), Due.BAD);
        due.is("copy(0, 0, 8, 0, 0)", x.copy(0, 0, 8, 0, 0), Due.BAD);
        due.is("drop(8)", x.drop(8), Due.BAD);
        due.is("shares(0, 0, 0)", x.shares(0, 0, 0), Due.BAD);
        due.is("kinds(0, 0, 0)", x.kinds(0, 0, 0), Due.BAD);
        due.is("who(0, 0)", x.who(0, 0), Due.STATE);
        due.is("cares(0, 0, 0)", x.cares(0, 0, 0), Due.STATE);
        due.is("as(0, 0)", x.as(0, 0), Due.BAD);
        due.is("status() of what was refused", x.status(), 0);
    }

    private static void noFinding(LampSquares x, String call, long answer) {
        due.holds(call + " is no refusal", answer >= 0);
        due.is("status() after " + call, x.status(), 0);
        x.drop(7);
        due.is("status() after drop(7)", x.status(), 1);
    }

    /** "the number of its FINDING; 0: it had none": each call with a ROW, and as(), behind one that had one. */
    private static void statusOfNoFinding() {
        LampSquares x = reader();
        x.drop(7);
        noFinding(x, "row(0, 0, 2)", x.row(0, 0, 2));
        noFinding(x, "row(1, 0, 0)", x.row(1, 0, 0));
        noFinding(x, "set(0, 1, 0)", x.set(0, 1, 0));
        noFinding(x, "copy(0, 0, 0, 1, 1)", x.copy(0, 0, 0, 1, 1));
        noFinding(x, "copy(0, 2, 1, 0, 0)", x.copy(0, 2, 1, 0, 0));
        noFinding(x, "shares(0, 0, 1)", x.shares(0, 0, 1));
        noFinding(x, "kinds(0, 0, 1)", x.kinds(0, 0, 1));
        noFinding(x, "who(0, 1)", x.who(0, 1));
        noFinding(x, "cares(9, 0, 1)", x.cares(9, 0, 1));
        noFinding(x, "as(0, 1)", x.as(0, 1));
        noFinding(x, "drop(1)", x.drop(1));
    }

    /** "-1000010 less 1 NULL, 2 PLACE, 3 KIND, 4 SIZE, 5 STORE"; status() tells the number, each call with a row. */
    private static void statusOfEachFinding() {
        LampSquares x = reader();
        x.row(1, 0, 2);
        x.row(2, 1, 2);
        long[] answers = {x.set(0, 0, 0), x.status(), x.set(1, 2, 0), x.status(), x.as(0, 2), x.status(),
            x.row(1, 0, -1), x.status(), x.copy(1, 0, 2, 0, 0), x.status(), x.copy(1, 0, 1, 0, 3), x.status(),
            x.copy(0, 0, 1, 0, 0), x.status(), x.drop(0), x.status()};
        long[] numbers = {1, 2, 3, 4, 5, 2, 1, 1};
        for (int i = 0; i < numbers.length; i++) {
            due.is("finding " + numbers[i], answers[2 * i], -1000010 - numbers[i]);
            due.is("status() of finding " + numbers[i], answers[2 * i + 1], numbers[i]);
        }
        due.is("copy(1, 0, 1, 1, 1)", x.copy(1, 0, 1, 1, 1), 1);
        due.is("status() of a copy without a finding", x.status(), 0);
        x.drop(0);
        due.is("row(0, 0, 0)", x.row(0, 0, 0), 0);
        due.is("status() of a row without a finding", x.status(), 0);
        x.drop(5);
        due.is("drop(0)", x.drop(0), 0);
        due.is("status() of a drop without a finding", x.status(), 0);
    }

    /** "FINDINGS, of several the first in time": in the order in which a promise tells them. */
    private static void statusOfTheFirstOfSeveral() {
        LampSquares x = new LampSquares();
        x.row(0, 0, 2);
        x.row(1, 1, 2);
        due.is("copy(0, 5, 7, 5, -1): NULL, PLACE", x.copy(0, 5, 7, 5, -1), Due.NULL);
        due.is("status()", x.status(), 1);
        due.is("copy(7, 0, 1, 9, 1): NULL, PLACE", x.copy(7, 0, 1, 9, 1), Due.NULL);
        due.is("copy(1, 9, 0, 9, -1): STORE, PLACE", x.copy(1, 9, 0, 9, -1), Due.STORE);
        due.is("status()", x.status(), 5);
        due.is("set(7, -1, 0): NULL, PLACE", x.set(7, -1, 0), Due.NULL);
        due.is("status()", x.status(), 1);
        due.is("row(9, 0, -1): BAD, SIZE", x.row(9, 0, -1), Due.BAD);
        due.is("status() stays", x.status(), 1);
        due.is("row(7, 3, -1): BAD, SIZE", x.row(7, 3, -1), Due.BAD);
        due.is("status() stays", x.status(), 1);
    }

    /** "Of the latest call with a ROW, or as()": no other call changes it. */
    private static void statusStaysByCallsWithoutARow() {
        LampSquares x = Due.at(Due.SIX);
        x.drop(5);
        Due.feed(x, "d");
        x.door();
        x.fault();
        x.pose(0, 8);
        x.strict(2);
        x.share(0, 1);
        x.settle(3);
        x.undo();
        x.square(0, 0);
        x.visitor(0, 0);
        x.sees(0, 0);
        x.clicks(0);
        x.wrong(0, 1);
        x.guests(1);
        x.fewest(1, 0);
        x.harsh(1, 1);
        x.keen(0);
        x.tells(1, 0);
        x.learned(0);
        x.needs(3);
        x.save(1, 0);
        x.slip(0, 1, 1, 0);
        x.drawn(1, 1, 0);
        x.image(0);
        x.restore(0);
        x.kind(0);
        x.ask(0, 0);
        x.trace(0);
        x.count(0);
        due.is("status()", x.status(), 1);
        due.is("status() again", x.status(), 1);
        Due.read(x, Due.SIX);
        due.is("status() after a door that was read", x.status(), 1);
        x.as(0, 0);
        due.is("status() after as()", x.status(), 0);
    }
}
