/** Promises 6 to 8: what is fed, read, and at fault. */
public final class TapeTest {
    private static final Due due = new Due("TapeTest");

    public static void main(String[] args) {
        feed();
        doorsThatAreRead();
        faultsOfPlace();
        faultsOfNumbers();
        faultsOfRoom();
        whatStaysAndWhatGoes();
        due.end();
    }

    private static void feed() {
        LampSquares x = new LampSquares();
        due.is("feed(-1)", x.feed(-1), Due.BAD);
        due.is("feed(256)", x.feed(256), Due.BAD);
        due.is("feed(0)", x.feed(0), 1);
        due.is("feed(255)", x.feed(255), 2);
        for (int i = 3; i <= 120; i++) {
            due.is("feed(100)", x.feed(100), i);
        }
        due.is("count(7)", x.count(7), 120);
        due.is("feed(100), the 121st", x.feed(100), Due.FULL);
        due.is("feed(256): BAD is ahead of FULL", x.feed(256), Due.BAD);
        due.is("count(7)", x.count(7), 120);
        due.is("door()", x.door(), -1000100);
        due.is("count(7)", x.count(7), 0);
        due.is("feed(100)", x.feed(100), 1);
    }

    private static void doorsThatAreRead() {
        LampSquares x = new LampSquares();
        due.is("the least door", Due.read(x, "d1,0;k0;v0,0;"), 1);
        due.is("count(2)", x.count(2), 1);
        due.is("count(3)", x.count(3), 0);
        due.is("the greatest door", Due.read(x, "d9,8;k9;e9;c9;u9;h9;k9;k9;k9;v9,9;v9,9;v9,9;v9,9;v9,9;"), 8);
        due.is("count(2)", x.count(2), 5);
        due.is("count(3)", x.count(3), 8);
        due.is("square(7, 0)", x.square(7, 0), 9);
        due.is("visitor(4, 1)", x.visitor(4, 1), 9);
        due.is("two figures that tell one", Due.read(x, "d04,01;k06;v09,00;"), 1);
        due.is("count(3)", x.count(3), 1);
        due.is("square(0, 0)", x.square(0, 0), 6);
        due.is("visitor(0, 0)", x.visitor(0, 0), 9);
        due.is("fault()", x.fault(), 0);
        due.is(Due.SIX, Due.read(x, Due.SIX), 6);
        int[] kinds = {1, 2, 3, 4, 5, 1};
        int[] shares = {6, 4, 2, 5, 7, 0};
        for (int i = 0; i < 6; i++) {
            due.is("kind(" + i + ")", x.kind(i), kinds[i]);
            due.is("square(" + i + ", 0)", x.square(i, 0), shares[i]);
        }
        due.is("the edge is 4", x.square(1, 1), 1);
        due.is("the edge is 4", x.square(2, 1), 0);
    }

    private static void faulty(String text, int place, int number) {
        LampSquares x = Due.at(Due.SIX);
        due.is("door() of " + text, Due.read(x, text), -1000100 - place);
        due.is("fault() of " + text, x.fault(), number);
        due.is("the squares stay after " + text, x.count(1), 6);
        due.is("the tape is empty after " + text, x.count(7), 0);
    }

    private static void faultsOfPlace() {
        faulty("", 0, 1);
        faulty("k1;", 0, 1);
        faulty("D1,0;k0;v0,0;", 0, 1);
        faulty(" d1,0;k0;v0,0;", 0, 1);
        faulty("d", 1, 1);
        faulty("d,", 1, 1);
        faulty("d123,0;", 1, 1);
        faulty("d1;", 2, 1);
        faulty("d1,", 3, 1);
        faulty("d1,0", 4, 1);
        faulty("d1,0,", 4, 1);
        faulty("d1,0;", 5, 1);
        faulty("d1,0;v0,0;", 5, 1);
        faulty("d1,0;d0;", 5, 1);
        faulty("d1,0;q0;", 5, 1);
        faulty("d1,0;7;", 5, 1);
        faulty("d1,0;kk", 6, 1);
        faulty("d1,0;k1234;", 6, 1);
        faulty("d1,0;k0012;", 6, 1);
        faulty("d1,0;k0", 7, 1);
        faulty("d1,0;k0,0;", 7, 1);
        faulty("d1,0;k0;", 8, 1);
        faulty("d1,0;k0;q0;", 8, 1);
        faulty("d1,0;k0;v", 9, 1);
        faulty("d1,0;k0;v;", 9, 1);
        faulty("d1,0;k0;v0;", 10, 1);
        faulty("d1,0;k0;v0,", 11, 1);
        faulty("d1,0;k0;v0,999", 11, 1);
        faulty("d1,0;k0;v0,0", 12, 1);
        faulty("d1,0;k0;v0,0;k0;", 13, 1);
        faulty("d1,0;k0;v0,0; ", 13, 1);
        faulty("d1,0;k0;v0,0;v0,0;;", 18, 1);
        faulty("d1,0;k0;" + (char) 235 + "0;", 8, 1);
    }

    private static void faultsOfNumbers() {
        faulty("d0,0;", 1, 2);
        faulty("d10,0;", 1, 2);
        faulty("d99", 1, 2);
        faulty("d1,9;", 3, 2);
        faulty("d1,10;", 3, 2);
        faulty("d1,0;k10;", 6, 2);
        faulty("d1,0;k0;u99;", 9, 2);
        faulty("d1,0;k0;v10,0;", 9, 2);
        faulty("d1,0;k0;v0,10;", 11, 2);
        faulty("d1,0;k0;v0,10", 11, 2);
        faulty("d1,0;k10;q", 6, 2);
    }

    private static void faultsOfRoom() {
        String eight = "d1,0;k0;e0;c0;u0;h0;k0;k0;k0;";
        faulty(eight + "k0;v0,0;", 29, 3);
        faulty(eight + "h", 29, 3);
        faulty(eight + "q0;", 29, 1);
        faulty(eight, 29, 1);
        faulty(eight + "v0,10;", 32, 2);
        String five = "d1,0;k0;v0,0;v0,0;v0,0;v0,0;v0,0;";
        faulty(five + "v0,0;", 33, 3);
        faulty(five + "v", 33, 3);
        faulty(five + "k", 33, 1);
        faulty(five + "11", 33, 1);
    }

    private static void whatStaysAndWhatGoes() {
        LampSquares x = Due.at(Due.SIX);
        x.row(0, 0, 3);
        x.image(1);
        x.pose(0, 63);
        x.settle(3);
        x.strict(5);
        x.ask(3, 0);
        due.is("days that are only foretold leave nothing", x.drawn(60, 1, 1) > 2 ? 1 : 0, 1);
        due.is("door() of nothing", x.door(), -1000100);
        due.is("acts stay", x.count(6), 3);
        due.is("votes stay", x.count(5), 2);
        due.is("STRICT stays", x.count(3), 5);
        due.is("SETTLED stays", x.square(3, 5), 1);
        due.is("fault()", x.fault(), 1);
        due.is("door() of " + Due.SIX, Due.read(x, Due.SIX), 6);
        due.is("no act can be undone", x.undo(), Due.STATE);
        due.is("no votes", x.count(5), 0);
        due.is("STRICT is told anew", x.count(3), 1);
        due.is("no square is settled", x.square(3, 5), Due.NONE);
        due.is("nobody was asked", x.visitor(0, 2), 0);
        due.is("nobody was let in", x.visitor(0, 3), 0);
        x.drawn(60, 1, 0);
        Due.read(x, Due.SIX);
        for (int i = 0; i < 4; i++) {
            due.is("nobody was asked, after days foretold", x.visitor(i, 2) + x.visitor(i, 3), 0);
        }
        due.is("no votes, after days foretold", x.count(5), 0);
        due.is("rows stay", x.count(0), 1);
        due.is("images stay", x.restore(1), 1);
        due.is("fault() stays", x.fault(), 1);
        due.is("the trace stays", x.trace(0), 13);
    }
}
