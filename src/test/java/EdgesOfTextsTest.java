/** Promises 6 to 8, TEXTS and FAULTS, by the sentences that name a boundary case: each has a test of its own. */
public final class EdgesOfTextsTest {
    private static final Due due = new Due("EdgesOfTextsTest");

    /** The numbers of a FAULT. */
    private static final int PLACED = 1, NUMBERED = 2, CROWDED = 3;

    public static void main(String[] args) {
        theTapeHasAtMost120Bytes();
        eachByteIsOneMore();
        theTapeIsEmptyThen();
        whatIsReadIsTheWholeTape();
        eachByteAtEachPlace();
        numbersOfTwoFiguresAtMost();
        edgeIsOneToNine();
        strictIsZeroToEight();
        shareIsZeroToNine();
        careIsZeroToNine();
        earIsZeroToNine();
        eightSquaresAtMost();
        fiveVisitorsAtMost();
        oneSquareAndOneVisitorAtLeast();
        theEndIsAFault();
        theFirstTokenThatHasOne();
        ofOneTokenTheLeast();
        theFaultIsAtItsFirstByte();
        fullTapesAtFault();
        theLatestFault();
        allButTheTapeStays();
        aDoorStandsInPlaceOfTheOneBefore();
        daysForetoldLeaveNothingAtTheNext();
        imagesAndRowsStay();
        due.end();
    }

    private static void good(String text, int squares) {
        LampSquares x = new LampSquares();
        due.is("door() of " + text, Due.read(x, text), squares);
        due.is("fault() after " + text, x.fault(), 0);
        due.is("count(1) after " + text, x.count(1), squares);
    }

    private static void faulty(String text, int place, int number) {
        LampSquares x = new LampSquares();
        due.is("door() of " + text, Due.read(x, text), -1000100 - place);
        due.is("fault() of " + text, x.fault(), number);
        due.is("no door after " + text, x.count(1) + x.count(2), 0);
        due.is("no tape after " + text, x.count(7), 0);
    }

    /** "THE TAPE has at most 120 bytes"; feed(): "BAD; FULL". */
    private static void theTapeHasAtMost120Bytes() {
        LampSquares x = new LampSquares();
        for (int i = 1; i <= 119; i++) {
            x.feed('d');
        }
        due.is("count(7)", x.count(7), 119);
        due.is("feed, the 120th", x.feed('d'), 120);
        due.is("feed, the 121st", x.feed('d'), Due.FULL);
        due.is("feed, the 121st again", x.feed(0), Due.FULL);
        due.is("feed(-1) at a full tape", x.feed(-1), Due.BAD);
        due.is("feed(256) at a full tape", x.feed(256), Due.BAD);
        due.is("count(7)", x.count(7), 120);
    }

    /** "A byte (0 to 255) comes behind the tape: how many it has." */
    private static void eachByteIsOneMore() {
        LampSquares x = new LampSquares();
        int had = 0;
        for (int letter = 0; letter <= 255; letter++) {
            due.is("feed(" + letter + ")", x.feed(letter), had + 1);
            had++;
            if (had == 120) {
                x.door();
                had = 0;
            }
        }
        due.is("count(7)", x.count(7), 16);
    }

    /** "The tape, empty then": after a door that is read, after a fault, after a full one. */
    private static void theTapeIsEmptyThen() {
        LampSquares x = new LampSquares();
        due.is("door() of an empty tape", x.door(), -1000100);
        due.is("count(7)", x.count(7), 0);
        for (int i = 1; i <= 121; i++) {
            x.feed('d');
        }
        due.is("door() of a full tape", x.door(), -1000101);
        due.is("count(7)", x.count(7), 0);
        for (int i = 1; i <= 120; i++) {
            due.is("feed()", x.feed('k'), i);
        }
        due.is("door() of another full tape", x.door(), -1000100);
        due.is("door() of a good one", Due.read(x, "d1,0;k0;v0,0;"), 1);
        due.is("count(7)", x.count(7), 0);
        due.is("door() of an empty tape", x.door(), -1000100);
        due.is("fault()", x.fault(), 1);
    }

    /** What was refused by a full tape is not on it; what stood there ahead is gone with it. */
    private static void whatIsReadIsTheWholeTape() {
        LampSquares x = new LampSquares();
        Due.feed(x, "d2,3;e4;");
        x.feed(256);
        x.feed(-1);
        Due.feed(x, "v5,6;");
        due.is("door()", x.door(), 1);
        due.is("STRICT", x.count(3), 3);
        due.is("SHARE", x.square(0, 0), 4);
        due.is("KIND", x.kind(0), 2);
        due.is("CARE", x.visitor(0, 0), 5);
        due.is("EAR", x.visitor(0, 1), 6);
        Due.feed(x, "d1,0;");
        due.is("a shorter tape than the one before ends where it ends", x.door(), -1000105);
    }

    /** Where one token may stand: behind what, which bytes, which of those are a number that is not as told. */
    private static void eachByteAtEachPlace() {
        String figures = "0123456789";
        eachByte("", "d", "");
        eachByte("d", figures, "0");
        eachByte("d1,", figures, "9");
        eachByte("d1,0;", "kecuh", "");
        eachByte("d1,0;k", figures, "");
        eachByte("d1,0;k0;", "kecuhv", "");
        eachByte("d1,0;k0;v", figures, "");
        eachByte("d1,0;k0;v0,", figures, "");
        eachByte("d1,0;k0;v0,0;", "v", "");
        afterAFigure("d1", ',', "0123456789", 1);
        afterAFigure("d1,0", ';', "9", 3);
        afterAFigure("d1,0;k0", ';', "", 6);
        afterAFigure("d1,0;k1", ';', figures, 6);
        afterAFigure("d1,0;k0;v0", ',', "", 9);
        afterAFigure("d1,0;k0;v1", ',', figures, 9);
    }

    /** "letters a to z (each by itself), NUMBERS, SIGNS , and ; nothing else": 1 what cannot stand there, or is none. */
    private static void eachByte(String ahead, String stand, String wrong) {
        for (int letter = 0; letter <= 255; letter++) {
            String text = ahead + (char) letter;
            if (wrong.indexOf(letter) >= 0) {
                faulty(text, ahead.length(), NUMBERED);
            } else if (stand.indexOf(letter) >= 0) {
                faulty(text, text.length(), PLACED);
            } else {
                faulty(text, ahead.length(), PLACED);
            }
        }
    }

    /** Behind one figure stands a sign, or a second figure, that makes another number, which may be wrong at its first. */
    private static void afterAFigure(String ahead, char sign, String wrong, int first) {
        for (int letter = 0; letter <= 255; letter++) {
            String text = ahead + (char) letter;
            if (wrong.indexOf(letter) >= 0) {
                faulty(text, first, NUMBERED);
            } else if (letter == sign || letter >= '0' && letter <= '9') {
                faulty(text, text.length(), PLACED);
            } else {
                faulty(text, ahead.length(), PLACED);
            }
        }
    }

    /** "NUMBERS (figures, 2 at most)"; "a run of three figures, at its first": is none. */
    private static void numbersOfTwoFiguresAtMost() {
        good("d09,08;k09;v09,09;", 1);
        good("d01,00;k00;v00,00;", 1);
        String[] three = {"000", "001", "009", "100", "999", "0000", "00001", "123456789"};
        for (String run : three) {
            faulty("d" + run + ",0;k0;v0,0;", 1, PLACED);
            faulty("d1," + run + ";k0;v0,0;", 3, PLACED);
            faulty("d1,0;k" + run + ";v0,0;", 6, PLACED);
            faulty("d1,0;k0;v" + run + ",0;", 9, PLACED);
            faulty("d1,0;k0;v0," + run + ";", 11, PLACED);
            faulty("d" + run, 1, PLACED);
            faulty("d1,0;k0;v0," + run, 11, PLACED);
        }
    }

    private static void numbers(String ahead, String behind, int least, int most) {
        for (int n = 0; n <= 99; n++) {
            boolean asTold = n >= least && n <= most;
            if (n < 10) {
                number(ahead, "" + n, behind, asTold);
            }
            number(ahead, "" + n / 10 + n % 10, behind, asTold);
        }
    }

    private static void number(String ahead, String told, String behind, boolean asTold) {
        if (asTold) {
            good(ahead + told + behind, 1);
        } else {
            faulty(ahead + told + behind, ahead.length(), NUMBERED);
            faulty(ahead + told, ahead.length(), NUMBERED);
        }
    }

    /** "law: d EDGE , STRICT ; (1 to 9; 0 to 8)": EDGE. */
    private static void edgeIsOneToNine() {
        numbers("d", ",0;k0;v0,0;", 1, 9);
        for (int edge = 1; edge <= 9; edge++) {
            LampSquares x = Due.at("d" + edge + ",0;k9;v0,0;");
            for (int share = 0; share <= 9; share++) {
                x.share(0, share);
                due.is("a LAMP by " + share + ", EDGE " + edge, x.square(0, 1), share >= edge ? 1 : 0);
            }
        }
    }

    /** "(1 to 9; 0 to 8)": STRICT. */
    private static void strictIsZeroToEight() {
        numbers("d1,", ";k0;v0,0;", 0, 8);
        for (int strict = 0; strict <= 8; strict++) {
            due.is("STRICT", Due.at("d1," + strict + ";k0;v0,0;").count(3), strict);
        }
    }

    /** "square: SORT SHARE ; (0 to 9)". */
    private static void shareIsZeroToNine() {
        for (int sort = 0; sort < 5; sort++) {
            numbers("d1,0;" + "kecuh".charAt(sort), ";v0,0;", 0, 9);
            for (int share = 0; share <= 9; share++) {
                LampSquares x = Due.at("d1,0;" + "kecuh".charAt(sort) + share + ";v0,0;");
                due.is("SHARE", x.square(0, 0), share);
                due.is("KIND", x.kind(0), sort + 1);
            }
        }
    }

    /** "visitor: v CARE , EAR ; (0 to 9 each)": CARE. */
    private static void careIsZeroToNine() {
        numbers("d1,0;k0;v", ",0;", 0, 9);
        for (int care = 0; care <= 9; care++) {
            due.is("CARE", Due.at("d1,0;k0;v" + care + ",0;").visitor(0, 0), care);
        }
    }

    /** "(0 to 9 each)": EAR. */
    private static void earIsZeroToNine() {
        numbers("d1,0;k0;v0,", ";", 0, 9);
        for (int ear = 0; ear <= 9; ear++) {
            due.is("EAR", Due.at("d1,0;k0;v0," + ear + ";").visitor(0, 1), ear);
        }
    }

    /** "SQUARES 0 .. 7, 8 at most"; "3 a square more than there is room for (its letter)". */
    private static void eightSquaresAtMost() {
        String text = "d1,0;";
        for (int squares = 1; squares <= 8; squares++) {
            text += "" + "kecuh".charAt(squares % 5) + squares + ";";
            good(text + "v0,0;", squares);
            LampSquares x = Due.at(text + "v0,0;");
            for (int one = 0; one < squares; one++) {
                due.is("square(" + one + ", 0)", x.square(one, 0), one + 1);
                due.is("kind(" + one + ")", x.kind(one), (one + 1) % 5 + 1);
            }
            due.is("square(" + squares + ", 0)", x.square(squares, 0), Due.BAD);
        }
        for (int sort = 0; sort < 5; sort++) {
            faulty(text + "kecuh".charAt(sort) + "0;v0,0;", text.length(), CROWDED);
            faulty(text + "kecuh".charAt(sort), text.length(), CROWDED);
        }
    }

    /** "VISITORS 0 .. 4, 5 at most"; "3 a visitor more than there is room for (its letter)". */
    private static void fiveVisitorsAtMost() {
        String text = "d1,0;k0;";
        for (int visitors = 1; visitors <= 5; visitors++) {
            text += "v" + visitors + "," + (9 - visitors) + ";";
            good(text, 1);
            LampSquares x = Due.at(text);
            due.is("count(2)", x.count(2), visitors);
            for (int one = 0; one < visitors; one++) {
                due.is("visitor(" + one + ", 0)", x.visitor(one, 0), one + 1);
                due.is("visitor(" + one + ", 1)", x.visitor(one, 1), 8 - one);
            }
            due.is("visitor(" + visitors + ", 0)", x.visitor(visitors, 0), Due.BAD);
        }
        faulty(text + "v0,0;", text.length(), CROWDED);
        faulty(text + "v", text.length(), CROWDED);
        faulty(text + "vv", text.length(), CROWDED);
        faulty("d1,0;k0;e0;c0;u0;h0;k0;k0;k0;v0,0;v0,0;v0,0;v0,0;v0,0;v0,0;", 54, CROWDED);
    }

    /** "door: law square { square } visitor { visitor }": one of each has to be there. */
    private static void oneSquareAndOneVisitorAtLeast() {
        good("d1,0;k0;v0,0;", 1);
        faulty("k0;v0,0;", 0, PLACED);
        faulty("d1,0;v0,0;", 5, PLACED);
        faulty("d1,0;k0;", 8, PLACED);
        faulty("d1,0;", 5, PLACED);
        faulty("v0,0;", 0, PLACED);
        faulty("d1,0;d1,0;k0;v0,0;", 5, PLACED);
        faulty("d1,0;k0;d1,0;v0,0;", 8, PLACED);
        faulty("d1,0;k0;v0,0;d1,0;", 13, PLACED);
        faulty("d1,0;k0;v0,0;k0;v0,0;", 13, PLACED);
    }

    /** "the end: how many bytes there are": each beginning of a door that is not one. */
    private static void theEndIsAFault() {
        String text = "d4,1;k6;e4;c2;u5;h7;v9,9;v5,2;";
        for (int length = 0; length < text.length(); length++) {
            if (length == text.length() - 5) {
                good(text.substring(0, length), 5);
            } else {
                faulty(text.substring(0, length), length, PLACED);
            }
        }
        good(text, 5);
    }

    /** "the first TOKEN that has one": of several faults that of the first, whatever its number. */
    private static void theFirstTokenThatHasOne() {
        faulty("d0,9;k10;v0", 1, NUMBERED);
        faulty("d1,9;q", 3, NUMBERED);
        faulty("d1,0;k10;k999;", 6, NUMBERED);
        faulty("d1,0;q10;", 5, PLACED);
        faulty("d1,0;k999;k10;", 6, PLACED);
        faulty("d1,0;k0;v0 10;", 10, PLACED);
        faulty("d1,0;k0;v10 0;", 9, NUMBERED);
        faulty("d1,0;k0;v0,10", 11, NUMBERED);
        String eight = "d1,0;k0;e0;c0;u0;h0;k0;k0;k0;";
        faulty(eight + "k10;", 29, CROWDED);
        faulty(eight + "k999", 29, CROWDED);
        faulty("d1,0;k0;e0;c0;u0;h0;k0;k0;k10;k0;", 27, NUMBERED);
        faulty("d1,0;k0;e0;c0;u0;h0;k0;k0;k0,k0;", 28, PLACED);
        String five = "d1,0;k0;v0,0;v0,0;v0,0;v0,0;";
        faulty(five + "v0,10;v0,0;", 31, NUMBERED);
        faulty(five + "v0,0;v10,0;", 33, CROWDED);
    }

    /** "of one TOKEN the least": what cannot stand there, or is none, is told ahead of its wrong number. */
    private static void ofOneTokenTheLeast() {
        faulty("99d", 0, PLACED);
        faulty("d999,0;", 1, PLACED);
        faulty("d1,999;", 3, PLACED);
        faulty("d1,0;99", 5, PLACED);
        faulty("d1,0;k0;99;", 8, PLACED);
        faulty("d1,0;k0;v0,0;99", 13, PLACED);
        String eight = "d1,0;k0;e0;c0;u0;h0;k0;k0;k0;";
        faulty(eight + "99;", 29, PLACED);
        faulty(eight + "d", 29, PLACED);
        faulty(eight + "K", 29, PLACED);
        String five = "d1,0;k0;v0,0;v0,0;v0,0;v0,0;v0,0;";
        faulty(five + "k", 33, PLACED);
        faulty(five + "V", 33, PLACED);
        faulty(five + "9", 33, PLACED);
        faulty(five + ";", 33, PLACED);
    }

    /** "(its first byte)": of a number of two figures, of a run of three, of a square and a visitor too many. */
    private static void theFaultIsAtItsFirstByte() {
        faulty("d10,0;k0;v0,0;", 1, NUMBERED);
        faulty("d01,10;k0;v0,0;", 4, NUMBERED);
        faulty("d01,00;k10;v0,0;", 8, NUMBERED);
        faulty("d01,00;k00;v10,0;", 12, NUMBERED);
        faulty("d01,00;k00;v00,10;", 15, NUMBERED);
        faulty("d01,00;k00;v00,100;", 15, PLACED);
        faulty("d01,00;k00;v00,00;v", 19, PLACED);
        faulty("d01,00;k00;k00;k00;k00;k00;k00;k00;k00;k00;v00,00;", 39, CROWDED);
        faulty("d01,00;k00;v00,00;v00,00;v00,00;v00,00;v00,00;v00,00;", 46, CROWDED);
    }

    /** A full tape cannot tell a door: the longest one has 74 bytes. */
    private static void fullTapesAtFault() {
        StringBuilder text = new StringBuilder("d09,08;");
        for (int i = 0; i < 8; i++) {
            text.append("kecuhkec".charAt(i)).append("09;");
        }
        for (int i = 0; i < 5; i++) {
            text.append("v09,09;");
        }
        due.is("the longest door", text.length(), 74);
        good(text.toString(), 8);
        String more = text.toString();
        while (more.length() < 120) {
            more += "v";
        }
        faulty(more, 74, CROWDED);
        faulty(more.substring(0, 74) + more.substring(74).replace('v', ';'), 74, PLACED);
        faulty(more.substring(0, 74) + more.substring(74).replace('v', '0'), 74, PLACED);
        faulty(more.replace('d', 'D'), 0, PLACED);
        StringBuilder figures = new StringBuilder("d");
        while (figures.length() < 120) {
            figures.append('0');
        }
        faulty(figures.toString(), 1, PLACED);
    }

    /** "The number of the latest FAULT; 0 before one." */
    private static void theLatestFault() {
        LampSquares x = new LampSquares();
        due.is("fault() of a new one", x.fault(), 0);
        Due.read(x, "d1,0;k0;v0,0;");
        due.is("fault() after a door without one", x.fault(), 0);
        Due.read(x, "d0");
        due.is("fault()", x.fault(), 2);
        due.is("fault() again", x.fault(), 2);
        Due.feed(x, "q");
        due.is("fault(), what is on the tape is not read yet", x.fault(), 2);
        x.door();
        due.is("fault()", x.fault(), 1);
        Due.read(x, "d1,0;k0;e0;c0;u0;h0;k0;k0;k0;k");
        due.is("fault()", x.fault(), 3);
        Due.read(x, "d1,0;k0;v0,0;");
        due.is("fault() stays after a door without one", x.fault(), 3);
        x.door();
        due.is("fault()", x.fault(), 1);
    }

    private static void muchAtADoor(LampSquares x) {
        Due.tell(x, 0, 1, 0);
        x.row(5, 2, 40);
        Due.read(x, "d4,1;k6;e4;c2;u5;h7;v9,9;v5,2;v0,0;");
        x.pose(0, 31);
        x.image(1);
        x.settle(4);
        x.share(0, 5);
        x.strict(3);
        x.ask(1, 0);
        x.drop(7);
        Due.read(x, "q");
    }

    /** "-1000100 less the place of a FAULT: all but the tape, and what fault() tells, stays." */
    private static void allButTheTapeStays() {
        String[] texts = {"", "d", "d9", "d9,8;", "d9,8;h9;", "d9,8;h9;h9;h9;h9;h9;h9;h9;h9;", "d9,8;h9;v7,7",
            "d9,8;h9;v7,7;v7,7;v7,7;v7,7;v7,7;q"};
        LampSquares twin = new LampSquares();
        muchAtADoor(twin);
        int status = twin.status();
        String untouched = State.all(twin);
        for (String text : texts) {
            LampSquares x = new LampSquares();
            muchAtADoor(x);
            Due.feed(x, text);
            due.is("door() of " + text, x.door(), -1000100 - text.length() + (text.endsWith("q") ? 1 : 0));
            due.is("status() after " + text, x.status(), status);
            due.holds("all stays after " + text, State.all(x).equals(untouched));
        }
    }

    /** "A DOOR that is read stands in place of the one before: nobody was ASKED, no VOTES, no square is SETTLED". */
    private static void aDoorStandsInPlaceOfTheOneBefore() {
        String[] texts = {"d9,8;h9;v7,7;", "d4,1;k6;e4;c2;u5;h7;v9,9;v5,2;v0,0;", "d5,2;u1;u2;u3;u4;u5;u6;u7;u8;v1,2;v3,4;v5,6;v7,8;v9,0;"};
        for (String text : texts) {
            LampSquares x = new LampSquares();
            muchAtADoor(x);
            x.drawn(60, 1, 0);
            int squares = Due.read(x, text);
            String anew = State.ofDoor(Due.at(text));
            due.is("door() of " + text, squares, x.count(1));
            due.holds("a door anew by " + text, State.ofDoor(x).equals(anew));
            due.is("undo() after " + text, x.undo(), Due.STATE);
            due.holds("no act is taken back by " + text, State.ofDoor(x).equals(anew));
            due.is("the trace after " + text, x.trace(0), 12);
            due.is("status() after " + text, x.status(), 1);
            due.is("fault() after " + text, x.fault(), 1);
        }
    }

    /** Days that were foretold at a full door are no VOTES, and nobody was ASKED, at the one that is read next. */
    private static void daysForetoldLeaveNothingAtTheNext() {
        String text = "d1,8;u9;h9;u9;h9;u9;h9;u9;h9;v9,9;v0,0;v9,9;v0,0;v9,9;";
        LampSquares x = Due.at(text);
        due.holds("there are votes by these days", x.drawn(60, 1, 1) > 99);
        String anew = State.ofDoor(Due.at(text));
        Due.read(x, text);
        due.holds("the door is anew", State.ofDoor(x).equals(anew));
    }

    /** "IMAGES and ROWS stay." */
    private static void imagesAndRowsStay() {
        LampSquares twin = new LampSquares();
        muchAtADoor(twin);
        String kept = State.ofImagesAndRows(twin);
        LampSquares x = new LampSquares();
        muchAtADoor(x);
        due.is("door()", Due.read(x, "d9,8;h9;v7,7;"), 1);
        due.is("count(0)", x.count(0), 2);
        due.holds("images and rows stay", State.ofImagesAndRows(x).equals(kept));
    }
}
