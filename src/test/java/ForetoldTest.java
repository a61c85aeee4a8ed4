/** Promises 17 to 34: what is foretold, and images. */
public final class ForetoldTest {
    private static final Due due = new Due("ForetoldTest");
    private static final int LEAST = Integer.MIN_VALUE, MOST = Integer.MAX_VALUE;

    public static void main(String[] args) {
        clicks();
        wrong();
        guests();
        fewest();
        harsh();
        keen();
        tells();
        learned();
        needs();
        save();
        shares();
        kinds();
        who();
        cares();
        slip();
        drawn();
        images();
        aFullHouse();
        due.end();
    }

    private static void clicks() {
        due.is("clicks(0) at no door", new LampSquares().clicks(0), Due.BAD);
        LampSquares x = Due.at(Due.SIX);
        int[] bits = {31, 9, 20, 0};
        for (int v = 0; v < 4; v++) {
            due.is("clicks(" + v + ")", x.clicks(v), bits[v]);
        }
        due.is("clicks(4)", x.clicks(4), Due.BAD);
        due.is("clicks(-1)", x.clicks(-1), Due.BAD);
        LampSquares y = Due.at("d1,0;k5;k6;v4,0;");
        due.is("he sees more than 9 less 4 of the second alone", y.clicks(0), 2);
    }

    private static void wrong() {
        due.is("wrong(0, 0) at no door", new LampSquares().wrong(0, 0), Due.BAD);
        LampSquares x = Due.at(Due.SIX);
        int[] times = {1, 1, 3, 2};
        for (int v = 0; v < 4; v++) {
            due.is("wrong(" + v + ", 63)", x.wrong(v, 63), times[v]);
        }
        due.is("wrong(2, 5)", x.wrong(2, 5), 2);
        due.is("wrong(2, 0)", x.wrong(2, 0), 0);
        due.is("wrong(2, 24): they do not count", x.wrong(2, 24), 0);
        due.is("wrong(0, 64)", x.wrong(0, 64), Due.BAD);
        due.is("wrong(0, -1)", x.wrong(0, -1), Due.BAD);
        due.is("wrong(4, 1)", x.wrong(4, 1), Due.BAD);
        x.pose(0, 8);
        x.settle(3);
        due.is("wrong(2, 63): one more, settled as a lamp", x.wrong(2, 63), 4);
        x.settle(4);
        due.is("wrong(2, 63): one more, settled as none", x.wrong(2, 63), 5);
    }

    private static void guests() {
        due.is("guests(-1) at no door", new LampSquares().guests(-1), Due.STATE);
        LampSquares x = Due.at(Due.SIX);
        due.is("guests(63)", x.guests(63), 3);
        due.is("guests(4)", x.guests(4), 15);
        due.is("guests(5)", x.guests(5), 11);
        due.is("guests(0)", x.guests(0), 15);
        due.is("guests(64)", x.guests(64), Due.BAD);
        due.is("guests(-1)", x.guests(-1), Due.BAD);
        due.is("nothing changes", x.count(6), 0);
    }

    private static void fewest() {
        due.is("fewest(99, 9) at no door", new LampSquares().fewest(99, 9), Due.STATE);
        LampSquares x = Due.at(Due.SIX);
        due.is("fewest(3, 0)", x.fewest(3, 0), 2);
        due.is("fewest(3, 1)", x.fewest(3, 1), 3);
        due.is("fewest(11, 0)", x.fewest(11, 0), 2);
        due.is("fewest(11, 1), the least of two", x.fewest(11, 1), 5);
        due.is("fewest(15, 0)", x.fewest(15, 0), 0);
        due.is("fewest(15, 1)", x.fewest(15, 1), 0);
        due.is("fewest(4, 0)", x.fewest(4, 0), Due.NONE);
        due.is("fewest(4, 1)", x.fewest(4, 1), Due.NONE);
        due.is("fewest(16, 0)", x.fewest(16, 0), Due.BAD);
        due.is("fewest(-1, 0)", x.fewest(-1, 0), Due.BAD);
        due.is("fewest(3, 2)", x.fewest(3, 2), Due.BAD);
        due.is("fewest(3, -1)", x.fewest(3, -1), Due.BAD);
        LampSquares y = Due.at("d1,0;e9;k9;k1;k1;v9,0;v2,0;");
        due.is("the wrong one is out by two small ones or a great one", y.fewest(1, 1), 4);
        fewestNotLeast();
    }

    /** Squares 0 and 1 together let the same in as square 2 alone: fewer squares are ahead of lesser bits. */
    private static void fewestNotLeast() {
        LampSquares x = Due.at("d5,0;k5;k6;k4;v4,0;v5,0;v9,0;");
        due.is("clicks(0)", x.clicks(0), 2);
        due.is("clicks(1)", x.clicks(1), 3);
        due.is("clicks(2)", x.clicks(2), 7);
        due.is("fewest(3, 1)", x.fewest(3, 1), 4);
        due.is("fewest(2, 0)", x.fewest(2, 0), 2);
        due.is("fewest(2, 1)", x.fewest(2, 1), 5);
        LampSquares y = Due.at("d3,0;k1;c5;k9;v5,0;v4,0;v0,0;");
        due.is("fewest(1, 1): crooked to the second and the third", y.fewest(1, 1), 2);
        due.is("fewest(3, 1)", y.fewest(3, 1), 4);
        due.is("fewest(5, 0): where the second is wrong the third is, too", y.fewest(5, 0), Due.NONE);
    }

    private static void harsh() {
        due.is("harsh(99, 999) at no door", new LampSquares().harsh(99, 999), Due.STATE);
        LampSquares x = Due.at(Due.SIX);
        due.is("harsh(15, 63)", x.harsh(15, 63), 3);
        due.is("harsh(11, 63)", x.harsh(11, 63), 2);
        due.is("harsh(3, 63)", x.harsh(3, 63), 1);
        due.is("harsh(1, 3)", x.harsh(1, 3), 0);
        due.is("harsh(0, 63)", x.harsh(0, 63), 0);
        due.is("harsh(15, 0)", x.harsh(15, 0), 0);
        due.is("harsh(16, 0)", x.harsh(16, 0), Due.BAD);
        due.is("harsh(-1, 0)", x.harsh(-1, 0), Due.BAD);
        due.is("harsh(0, 64)", x.harsh(0, 64), Due.BAD);
        due.is("harsh(0, -1)", x.harsh(0, -1), Due.BAD);
        LampSquares y = Due.at("d1,0;k9;k9;k9;k9;k9;k9;k9;k9;v0,0;");
        due.is("harsh(1, 255)", y.harsh(1, 255), 8);
    }

    private static void keen() {
        due.is("keen(2) at no door", new LampSquares().keen(2), Due.STATE);
        LampSquares x = Due.at(Due.SIX);
        due.is("keen(0)", x.keen(0), 0);
        due.is("keen(1)", x.keen(1), 0);
        due.is("keen(2)", x.keen(2), Due.BAD);
        due.is("keen(-1)", x.keen(-1), Due.BAD);
        x.share(0, 9);
        due.is("keen(0): one is wrong at the first now", x.keen(0), 2);
        x.share(2, 9);
        due.is("keen(0): the first of two and two and four", x.keen(0), 2);
        due.is("keen(1)", x.keen(1), 0);
        x.share(2, 0);
        due.is("keen(0): of several the first", x.keen(0), 0);
        due.is("keen(1)", x.keen(1), 2);
        LampSquares y = Due.at("d5,0;u5;h5;v4,0;");
        due.is("keen(0): none counts", y.keen(0), Due.NONE);
        due.is("keen(1): none counts", y.keen(1), Due.NONE);
        y.settle(1);
        due.is("keen(0): a settled one counts", y.keen(0), 1);
        due.is("keen(1)", y.keen(1), 1);
    }

    private static void tells() {
        due.is("tells(999, 9) at no door", new LampSquares().tells(999, 9), Due.STATE);
        LampSquares x = Due.at(Due.SIX);
        due.is("tells(63, 0)", x.tells(63, 0), 6);
        due.is("tells(63, 1)", x.tells(63, 1), Due.NONE);
        due.is("tells(1, 0)", x.tells(1, 0), 4);
        due.is("tells(1, 1)", x.tells(1, 1), 1);
        due.is("tells(2, 0)", x.tells(2, 0), 3);
        due.is("tells(2, 1)", x.tells(2, 1), 12);
        due.is("tells(16, 0), that does not count", x.tells(16, 0), 4);
        due.is("tells(16, 1)", x.tells(16, 1), 2);
        due.is("tells(24, 1)", x.tells(24, 1), Due.NONE);
        due.is("tells(0, 0)", x.tells(0, 0), 0);
        due.is("tells(0, 1)", x.tells(0, 1), 1);
        due.is("tells(64, 0)", x.tells(64, 0), Due.BAD);
        due.is("tells(-1, 0)", x.tells(-1, 0), Due.BAD);
        due.is("tells(0, 2)", x.tells(0, 2), Due.BAD);
        due.is("tells(0, -1)", x.tells(0, -1), Due.BAD);
        LampSquares y = Due.at("d5,0;k5;k7;v4,0;v5,0;v2,0;v3,0;v9,0;");
        due.is("0 3 alike, 1 4 alike", y.tells(3, 1), 3);
        due.is("tells(1, 1)", y.tells(1, 1), 2);
        LampSquares z = Due.at("d5,0;k5;k7;v5,0;v4,0;v2,0;v9,0;");
        due.is("0 3 alike alone", z.tells(3, 1), 3);
        z.share(0, 0);
        due.is("0 1 alike now", z.tells(3, 1), 1);
        due.is("tells(0, 0) of one visitor", Due.at("d1,0;k1;v0,0;").tells(0, 0), 0);
    }

    private static void learned() {
        due.is("learned(0) at no door", new LampSquares().learned(0), Due.BAD);
        LampSquares x = Due.at(Due.SIX);
        due.is("learned(6)", x.learned(6), Due.BAD);
        due.is("learned(-1)", x.learned(-1), Due.BAD);
        due.is("learned(0), that counts", x.learned(0), 1);
        due.is("learned(3)", x.learned(3), 1);
        x.pose(0, 8);
        x.pose(0, 8);
        due.is("learned(3)", x.learned(3), 2);
        x.pose(3, 8);
        due.is("learned(3)", x.learned(3), 2);
        x.pose(3, 8);
        due.is("learned(3)", x.learned(3), 1);
        x.pose(3, 8);
        due.is("learned(3)", x.learned(3), 0);
        x.settle(3);
        due.is("learned(3), settled", x.learned(3), 0);
    }

    private static void needs() {
        due.is("needs(0) at no door", new LampSquares().needs(0), Due.BAD);
        LampSquares x = Due.at(Due.SIX);
        due.is("needs(6)", x.needs(6), Due.BAD);
        due.is("needs(-1)", x.needs(-1), Due.BAD);
        due.is("needs(0), that counts", x.needs(0), Due.STATE);
        due.is("needs(3)", x.needs(3), 1);
        x.pose(0, 8);
        due.is("one is for it", x.needs(3), 1);
        x.pose(0, 8);
        x.pose(0, 8);
        due.is("three are for it", x.needs(3), 3);
        x.pose(3, 24);
        due.is("three for, one against", x.needs(3), 2);
        x.pose(3, 24);
        due.is("two against", x.needs(4), 3);
        x.settle(4);
        due.is("needs(4), settled", x.needs(4), Due.STATE);
    }

    private static void save() {
        due.is("save(999, 9) at no door", new LampSquares().save(999, 9), Due.STATE);
        LampSquares x = Due.at(Due.SIX);
        due.is("save(63, 0)", x.save(63, 0), 2);
        due.is("save(63, 1)", x.save(63, 1), 3);
        due.is("save(62, 0)", x.save(62, 0), 2);
        due.is("save(62, 1)", x.save(62, 1), 6);
        due.is("save(4, 0)", x.save(4, 0), 0);
        due.is("save(4, 1)", x.save(4, 1), 0);
        due.is("save(64, 0)", x.save(64, 0), Due.BAD);
        due.is("save(-1, 0)", x.save(-1, 0), Due.BAD);
        due.is("save(63, 2)", x.save(63, 2), Due.BAD);
        due.is("save(63, -1)", x.save(63, -1), Due.BAD);
        LampSquares y = Due.at("d5,0;k5;k6;k4;v4,0;v5,0;v9,0;");
        due.is("save(7, 1): one of each that is wrong", y.save(7, 1), 5);
        due.is("save(6, 1): of the set alone", y.save(6, 1), 4);
        due.is("save(5, 1): all of the set", y.save(5, 1), 5);
    }

    private static void shares() {
        due.is("shares(0, 0, 0) at no door", new LampSquares().shares(0, 0, 0), Due.BAD);
        LampSquares x = Due.at(Due.SIX);
        due.is("shares(6, 0, 0)", x.shares(6, 0, 0), Due.BAD);
        due.is("shares(-1, 0, 0)", x.shares(-1, 0, 0), Due.BAD);
        due.is("shares(0, 8, 0)", x.shares(0, 8, 0), Due.BAD);
        due.is("shares(0, -1, 0)", x.shares(0, -1, 0), Due.BAD);
        due.is("shares(0, 0, -1): NULL is ahead of PLACE", x.shares(0, 0, -1), Due.NULL);
        Due.tell(x, 0, 1, 1, 0, 0);
        due.is("known: 5 and 6", x.shares(0, 0, 0), 96);
        due.is("edged: 6 and 7", x.shares(1, 0, 0), 192);
        due.is("crooked: 5 to 9", x.shares(2, 0, 0), 992);
        due.is("unknown: 5 and 6", x.shares(3, 0, 0), 96);
        due.is("heard: the second hears nothing", x.shares(4, 0, 0), 0);
        Due.tell(x, 1, 9, 1, 0, 1, 0);
        due.is("heard: 7 to 9", x.shares(4, 1, 1), 896);
        due.is("of 9 neither is so", x.shares(4, 1, 0), 0);
        due.is("shares(4, 1, 2)", x.shares(4, 1, 2), Due.PLACE);
        due.is("shares(4, 1, -1)", x.shares(4, 1, -1), Due.PLACE);
        due.is("shares(4, 1, MOST)", x.shares(4, 1, MOST), Due.PLACE);
        due.is("shares(4, 1, LEAST)", x.shares(4, 1, LEAST), Due.PLACE);
        Due.tell(x, 2, 2, 1, 0, 0);
        due.is("2 tells neither", x.shares(0, 2, 0), 0);
        due.is("square(0, 0) stays", x.square(0, 0), 6);
    }

    private static void kinds() {
        due.is("kinds(0, 0, 0) at no door", new LampSquares().kinds(0, 0, 0), Due.BAD);
        LampSquares x = Due.at(Due.SIX);
        due.is("kinds(6, 0, 0)", x.kinds(6, 0, 0), Due.BAD);
        due.is("kinds(-1, 0, 0)", x.kinds(-1, 0, 0), Due.BAD);
        due.is("kinds(0, 8, 0)", x.kinds(0, 8, 0), Due.BAD);
        due.is("kinds(0, -1, 0)", x.kinds(0, -1, 0), Due.BAD);
        due.is("kinds(0, 1, 0)", x.kinds(0, 1, 0), Due.NULL);
        Due.tell(x, 0, 1, 1, 0, 0);
        due.is("all but heard by 6", x.kinds(0, 0, 0), 2 + 4 + 8 + 16);
        due.is("known, crooked, unknown by 5", x.kinds(3, 0, 0), 2 + 8 + 16);
        due.is("crooked by 7; edged", x.kinds(4, 0, 0), 4 + 8);
        Due.tell(x, 0, 0, 1, 0, 1, 0);
        due.is("heard by 7", x.kinds(4, 0, 1), 32);
        due.is("kinds(4, 0, 2)", x.kinds(4, 0, 2), Due.PLACE);
        due.is("kinds(4, 0, -1)", x.kinds(4, 0, -1), Due.PLACE);
    }

    private static void who() {
        due.is("who(9, 0) at no door", new LampSquares().who(9, 0), Due.STATE);
        LampSquares x = Due.at("d4,1;k6;e4;c2;u5;h7;k0;v9,9;v5,2;v3,6;v0,0;v5,4;");
        due.is("who(8, 0)", x.who(8, 0), Due.BAD);
        due.is("who(-1, 0)", x.who(-1, 0), Due.BAD);
        due.is("who(0, 0)", x.who(0, 0), Due.NULL);
        Due.tell(x, 0, 1, 0, 0, 1, 0, 0, 0);
        due.is("who(0, 0)", x.who(0, 0), 2 + 16);
        due.is("who(0, 1)", x.who(0, 1), 0);
        due.is("who(0, 2)", x.who(0, 2), Due.PLACE);
        due.is("who(0, -1)", x.who(0, -1), Due.PLACE);
        x.set(0, 0, 0);
        x.set(0, 3, 0);
        due.is("who(0, 0)", x.who(0, 0), 8);
        Due.tell(x, 1, 1, 1, 1, 1, 1, 0);
        due.is("the first alone", x.who(1, 0), 1);
    }

    private static void cares() {
        due.is("cares(99, 9, 0) at no door", new LampSquares().cares(99, 9, 0), Due.STATE);
        LampSquares x = Due.at(Due.SIX);
        due.is("cares(10, 0, 0)", x.cares(10, 0, 0), Due.BAD);
        due.is("cares(-1, 0, 0)", x.cares(-1, 0, 0), Due.BAD);
        due.is("cares(0, 8, 0)", x.cares(0, 8, 0), Due.BAD);
        due.is("cares(0, -1, 0)", x.cares(0, -1, 0), Due.BAD);
        due.is("cares(0, 0, 0)", x.cares(0, 0, 0), Due.NULL);
        Due.tell(x, 0, 1, 0, 0, 1, 0, 0);
        due.is("care 5 or 6, that does not hear", x.cares(4, 0, 0), 32 + 64);
        due.is("one that hears clicks the fifth", x.cares(5, 0, 0), 0);
        x.set(0, 4, 1);
        due.is("care 5 or 6, that hears", x.cares(9, 0, 0), 32 + 64);
        due.is("cares(9, 0, 1)", x.cares(9, 0, 1), Due.PLACE);
        due.is("cares(9, 0, -1)", x.cares(9, 0, -1), Due.PLACE);
        Due.tell(x, 1, 0, 0, 0, 0, 0, 0);
        due.is("nothing is clicked", x.cares(0, 1, 0), 1 + 2 + 4);
        Due.tell(x, 2, 1, 1, 1, 1, 0, 0);
        due.is("all by the most careful", x.cares(0, 2, 0), 256 + 512);
    }

    private static void fraction(LampSquares x, int visitor, int set, int p, long above, long below) {
        String call = "slip(" + visitor + ", " + set + ", " + p;
        due.is(call + ", 0)", x.slip(visitor, set, p, 0), above);
        due.is(call + ", 1)", x.slip(visitor, set, p, 1), below);
    }

    private static void slip() {
        due.is("slip(0, 0, 0, 0) at no door", new LampSquares().slip(0, 0, 0, 0), Due.BAD);
        LampSquares x = Due.at(Due.SIX);
        fraction(x, 0, 63, 2, 368, 625);
        fraction(x, 0, 63, 0, 1, 1);
        fraction(x, 2, 63, 0, 0, 1);
        fraction(x, 2, 63, 10, 1, 1);
        fraction(x, 0, 24, 3, 1, 1);
        fraction(x, 0, 0, 5, 1, 1);
        x.strict(0);
        fraction(x, 0, 1, 3, 7, 10);
        fraction(x, 3, 1, 3, 3, 10);
        fraction(x, 3, 1, 4, 2, 5);
        fraction(x, 2, 7, 5, 1, 8);
        LampSquares y = Due.at("d1,0;k9;k9;k9;k9;k9;k9;k9;k9;v9,0;");
        fraction(y, 0, 255, 1, 43046721, 100000000);
        fraction(y, 0, 255, 9, 1, 100000000);
        y.strict(8);
        fraction(y, 0, 255, 9, 1, 1);
        y.strict(7);
        fraction(y, 0, 255, 1, 99999999, 100000000);
        due.is("slip(1, 0, 0, 0)", y.slip(1, 0, 0, 0), Due.BAD);
        due.is("slip(-1, 0, 0, 0)", y.slip(-1, 0, 0, 0), Due.BAD);
        due.is("slip(0, 256, 0, 0)", y.slip(0, 256, 0, 0), Due.BAD);
        due.is("slip(0, -1, 0, 0)", y.slip(0, -1, 0, 0), Due.BAD);
        due.is("slip(0, 0, 11, 0)", y.slip(0, 0, 11, 0), Due.BAD);
        due.is("slip(0, 0, -1, 0)", y.slip(0, 0, -1, 0), Due.BAD);
        due.is("slip(0, 0, 0, 2)", y.slip(0, 0, 0, 2), Due.BAD);
        due.is("slip(0, 0, 0, -1)", y.slip(0, 0, 0, -1), Due.BAD);
    }

    /** By the seed 1 the days are: 3 asked 39, 1 asked 49, 1 asked 25, 2 asked 42. */
    private static void drawn() {
        due.is("drawn(99, 0, 9) at no door", new LampSquares().drawn(99, 0, 9), Due.STATE);
        LampSquares x = Due.at(Due.SIX);
        int[] letIn = {0, 0, 1, 2, 3};
        int[] votes = {0, 0, 1, 3, 4};
        for (int n = 0; n <= 4; n++) {
            due.is("drawn(" + n + ", 1, 0)", x.drawn(n, 1, 0), letIn[n]);
            due.is("drawn(" + n + ", 1, 1)", x.drawn(n, 1, 1), votes[n]);
        }
        due.is("nothing changes", x.count(5), 0);
        due.is("nothing changes", x.visitor(1, 2), 0);
        due.is("nothing is an act", x.count(6), 0);
        x.pose(0, 24);
        due.is("the votes that were there are added", x.drawn(4, 1, 1), 6);
        due.is("drawn(0, 999999, 1)", x.drawn(0, 999999, 1), 2);
        due.is("drawn(61, 1, 0)", x.drawn(61, 1, 0), Due.BAD);
        due.is("drawn(-1, 1, 0)", x.drawn(-1, 1, 0), Due.BAD);
        due.is("drawn(1, 0, 0)", x.drawn(1, 0, 0), Due.BAD);
        due.is("drawn(1, 1000000, 0)", x.drawn(1, 1000000, 0), Due.BAD);
        due.is("drawn(1, 1, 2)", x.drawn(1, 1, 2), Due.BAD);
        due.is("drawn(1, 1, -1)", x.drawn(1, 1, -1), Due.BAD);
        due.is("drawn(60, 999999, 0) of one who is never wrong",
                Due.at("d1,0;k9;v9,0;").drawn(60, 999999, 0), 60);
    }

    private static void images() {
        LampSquares x = new LampSquares();
        due.is("image(2) at no door", x.image(2), Due.BAD);
        due.is("image(-1) at no door", x.image(-1), Due.BAD);
        due.is("image(0) at no door", x.image(0), Due.STATE);
        due.is("restore(-1)", x.restore(-1), Due.BAD);
        due.is("restore(2)", x.restore(2), Due.BAD);
        due.is("restore(0)", x.restore(0), Due.STATE);
        Due.read(x, Due.SIX);
        x.pose(0, 8);
        x.settle(3);
        due.is("image(0)", x.image(0), 1);
        due.is("acts stay", x.count(6), 2);
        due.is("restore(1): the other was not kept", x.restore(1), Due.STATE);
        x.share(0, 1);
        x.strict(7);
        due.is("image(1)", x.image(1), 1);
        due.is("door()", Due.read(x, "d1,8;u1;v1,1;"), 1);
        x.pose(0, 1);
        due.is("restore(0)", x.restore(0), 1);
        due.is("no act can be undone", x.undo(), Due.STATE);
        due.is("count(1)", x.count(1), 6);
        due.is("count(2)", x.count(2), 4);
        due.is("count(3)", x.count(3), 1);
        due.is("count(5)", x.count(5), 1);
        due.is("square(0, 0)", x.square(0, 0), 6);
        due.is("square(1, 1), by the edge", x.square(1, 1), 1);
        due.is("square(2, 1), by the edge", x.square(2, 1), 0);
        due.is("square(3, 5)", x.square(3, 5), 1);
        due.is("kind(4)", x.kind(4), 5);
        due.is("visitor(0, 2)", x.visitor(0, 2), 1);
        due.is("visitor(0, 3)", x.visitor(0, 3), 1);
        due.is("visitor(2, 1)", x.visitor(2, 1), 6);
        x.strict(0);
        due.is("restore(0) again: the image is its own", x.restore(0), 1);
        due.is("count(3)", x.count(3), 1);
        due.is("restore(1)", x.restore(1), 1);
        due.is("count(3)", x.count(3), 7);
        due.is("square(0, 0)", x.square(0, 0), 1);
        due.is("image(0) in place of the other", x.image(0), 1);
        x.strict(2);
        x.restore(0);
        due.is("count(3)", x.count(3), 7);
    }

    /** As many squares and visitors as there is room for; all but the last visitor are wrong everywhere. */
    private static void aFullHouse() {
        LampSquares x = Due.at("d1,7;k9;k9;k9;k9;k9;k9;k9;k9;v0,0;v0,1;v0,2;v0,3;v9,4;");
        due.is("wrong(3, 255)", x.wrong(3, 255), 8);
        due.is("wrong(4, 255)", x.wrong(4, 255), 0);
        due.is("guests(255)", x.guests(255), 16);
        due.is("guests(254)", x.guests(254), 31);
        due.is("fewest(16, 0)", x.fewest(16, 0), 8);
        due.is("fewest(16, 1)", x.fewest(16, 1), 255);
        due.is("save(255, 0)", x.save(255, 0), 8);
        due.is("save(255, 1)", x.save(255, 1), 255);
        due.is("harsh(31, 255)", x.harsh(31, 255), 8);
        due.is("keen(0)", x.keen(0), 0);
        due.is("keen(1)", x.keen(1), 3);
        due.is("tells(255, 0)", x.tells(255, 0), 4);
        due.is("tells(255, 1)", x.tells(255, 1), 1);
        Due.tell(x, 0, 0, 0, 0, 0, 1);
        due.is("shares(7, 0, 0)", x.shares(7, 0, 0), 1022);
        due.is("kinds(7, 0, 0): all but heard", x.kinds(7, 0, 0), 2 + 4 + 8 + 16);
        Due.tell(x, 1, 1, 1, 1, 1, 1, 1, 1, 1);
        due.is("who(1, 0)", x.who(1, 0), 16);
        due.is("cares(0, 1, 0)", x.cares(0, 1, 0), 1022);
        LampSquares y = Due.at("d1,0;k9;k9;k9;k9;k9;k9;k9;k9;v0,0;v0,1;v0,2;v0,3;v0,4;");
        due.is("all are wrong everywhere", y.keen(1), 5);
        due.is("keen(0)", y.keen(0), 0);
    }
}
