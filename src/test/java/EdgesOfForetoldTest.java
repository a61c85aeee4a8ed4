/** Promises 17 to 34: each sentence that names a boundary case, with a test of its own. */
public final class EdgesOfForetoldTest {
    private static final Due due = new Due("EdgesOfForetoldTest");

    /** One square, one visitor; and as many as there is room for, at which all but the last are wrong everywhere. */
    private static final String LEAST = "d1,0;k1;v9,0;";
    private static final String MOST = "d1,0;k9;k9;k9;k9;k9;k9;k9;k9;v0,0;v0,1;v0,2;v0,3;v9,4;";

    public static void main(String[] args) {
        clicksOfNoneAndAll();
        wrongByNoneAndAll();
        guestsNoneAndAll();
        fewestNone();
        fewestIsEmpty();
        fewestIsAll();
        fewestTheLeastOfSeveral();
        fewestHowManyAheadOfLeast();
        fewestNoOthers();
        harshZeroToEight();
        harshOfNobody();
        harshByNoSquares();
        keenNoneCounts();
        keenTheFirstOfSeveral();
        keenByAllAndByNone();
        keenOfAllVisitors();
        tellsNone();
        tellsAllPairs();
        tellsTheFirstPair();
        tellsWhetherItCountsOrNot();
        learnedTwoOneZero();
        needsOneMoreForALamp();
        needsAsManyAgainst();
        needsAtNinetyNine();
        needsMakesItTheOtherWay();
        saveOfTheEmptySet();
        saveOfAll();
        saveTheLeastOfSeveral();
        saveHowManyAheadOfLeast();
        saveTheVerySame();
        sharesZeroToNine();
        kindsOneToFive();
        itemsThatTellNeither();
        asManyItemsAsVisitors();
        whoOfNoneAndAll();
        caresZeroToNine();
        earsZeroToNine();
        asManyItemsAsSquares();
        slipOfNone();
        slipByZeroAndTen();
        slipInLowestTerms();
        slipAtSquaresThatCount();
        slipByStrictOrFewer();
        slipTheGreatestFractions();
        daysOfNone();
        daysByTheSeed();
        daysThatPassTheGreatestInt();
        daysAsFarAsThereAreSquares();
        daysEndAtNinetyNine();
        daysLetInBySettledAndStrict();
        daysChangeNothing();
        imagesOfTheirOwn();
        imageOfAFullDoor();
        imageInPlaceOfTheOneBefore();
        restoreTakesNoActBack();
        foretoldChangesNothing();
        due.end();
    }

    // ---- clicks, wrong, guests

    private static void clicksOfNoneAndAll() {
        LampSquares x = Due.at(MOST);
        due.is("clicks(0)", x.clicks(0), 0);
        due.is("clicks(4)", x.clicks(4), 255);
        due.is("clicks(5)", x.clicks(5), Due.BAD);
        due.is("clicks(0) of one square", Due.at(LEAST).clicks(0), 1);
        for (int s = 0; s < 8; s++) {
            x.share(s, 0);
            due.is("clicks(4)", x.clicks(4), 255 - ((2 << s) - 1));
        }
    }

    private static void wrongByNoneAndAll() {
        LampSquares x = Due.at(MOST);
        for (int s = 0; s < 8; s++) {
            due.is("wrong(0) at one", x.wrong(0, 1 << s), 1);
            due.is("wrong(4) at one", x.wrong(4, 1 << s), 0);
        }
        due.is("wrong(0, 0)", x.wrong(0, 0), 0);
        due.is("wrong(0, 255)", x.wrong(0, 255), 8);
        due.is("wrong(0, 256)", x.wrong(0, 256), Due.BAD);
        due.is("wrong(4, 255)", x.wrong(4, 255), 0);
        due.is("wrong(5, 255)", x.wrong(5, 255), Due.BAD);
    }

    private static void guestsNoneAndAll() {
        LampSquares x = Due.at(MOST);
        due.is("guests(0)", x.guests(0), 31);
        due.is("guests(255)", x.guests(255), 16);
        due.is("guests(128)", x.guests(128), 16);
        due.is("guests(256)", x.guests(256), Due.BAD);
        x.strict(7);
        due.is("guests(127)", x.guests(127), 31);
        due.is("guests(255)", x.guests(255), 16);
        x.strict(8);
        due.is("guests(255)", x.guests(255), 31);
        LampSquares y = Due.at("d9,0;k1;v9,0;");
        due.is("guests(1): he is wrong", y.guests(1), 0);
    }

    // ---- fewest: "the fewest SQUARES by which just these would be LET IN, no others"

    /** "NONE": no set of squares does it; both of how many and which. */
    private static void fewestNone() {
        LampSquares x = Due.at(MOST);
        for (int told : new int[] {0, 1, 15, 17, 30}) {
            due.is("fewest(" + told + ", 0)", x.fewest(told, 0), Due.NONE);
            due.is("fewest(" + told + ", 1)", x.fewest(told, 1), Due.NONE);
        }
        x.strict(8);
        due.is("fewest(16, 0): all are let in by all", x.fewest(16, 0), Due.NONE);
        LampSquares y = Due.at("d1,0;u1;h1;v9,0;");
        due.is("fewest(0, 0): none counts", y.fewest(0, 0), Due.NONE);
    }

    /** By no squares all are LET IN, which is 0 and 0, not NONE. */
    private static void fewestIsEmpty() {
        for (int strict = 0; strict <= 8; strict++) {
            LampSquares x = Due.at(MOST);
            x.strict(strict);
            due.is("fewest(31, 0)", x.fewest(31, 0), 0);
            due.is("fewest(31, 1)", x.fewest(31, 1), 0);
        }
        due.is("fewest(1, 0)", Due.at(LEAST).fewest(1, 0), 0);
    }

    /** One square more than STRICT, up to all. */
    private static void fewestIsAll() {
        LampSquares x = Due.at(MOST);
        for (int strict = 0; strict <= 7; strict++) {
            x.strict(strict);
            due.is("fewest(16, 0)", x.fewest(16, 0), strict + 1);
            due.is("fewest(16, 1), the least of as many", x.fewest(16, 1), (2 << strict) - 1);
        }
        LampSquares y = Due.at("d9,0;k1;v9,0;");
        due.is("fewest(0, 0): nobody is told", y.fewest(0, 0), 1);
        due.is("fewest(0, 1)", y.fewest(0, 1), 1);
    }

    /** "which (bits), of several the least". */
    private static void fewestTheLeastOfSeveral() {
        LampSquares x = Due.at("d5,0;k0;k0;k9;k0;k9;k0;k0;k9;v9,0;v0,0;");
        due.is("fewest(1, 0)", x.fewest(1, 0), 1);
        due.is("fewest(1, 1): 4, 16, 128 do it", x.fewest(1, 1), 4);
        x.share(2, 0);
        due.is("fewest(1, 1): 16, 128 do it", x.fewest(1, 1), 16);
        x.share(4, 0);
        due.is("fewest(1, 1): 128 alone does it", x.fewest(1, 1), 128);
        x.share(7, 0);
        due.is("fewest(1, 1): none does it", x.fewest(1, 1), Due.NONE);
    }

    /** At square 0 the second is wrong, at 1 the third, at 2 both of them, the first at none. */
    private static LampSquares oneSquareOrTwoLesser() {
        LampSquares x = Due.at("d5,0;k5;h9;e5;v9,9;v4,9;v5,0;");
        x.pose(0, 2);
        x.settle(1);
        return x;
    }

    /** Both 3 and 4 let in the first alone: one square is fewer, though of greater bits. */
    private static void fewestHowManyAheadOfLeast() {
        LampSquares x = oneSquareOrTwoLesser();
        due.is("guests(1)", x.guests(1), 5);
        due.is("guests(2)", x.guests(2), 3);
        due.is("guests(3)", x.guests(3), 1);
        due.is("guests(4)", x.guests(4), 1);
        due.is("fewest(1, 0)", x.fewest(1, 0), 1);
        due.is("fewest(1, 1)", x.fewest(1, 1), 4);
        due.is("fewest(3, 1)", x.fewest(3, 1), 2);
        due.is("fewest(5, 1)", x.fewest(5, 1), 1);
        LampSquares y = Due.at("d5,0;k5;k4;k6;v5,0;v6,0;v3,0;");
        due.is("fewest(1, 0): 3 and 6 do it", y.fewest(1, 0), 2);
        due.is("fewest(1, 1)", y.fewest(1, 1), 3);
    }

    /** "no others": a set by which one more is LET IN is none of them. */
    private static void fewestNoOthers() {
        LampSquares x = Due.at("d5,0;k5;k6;k7;v5,0;v4,0;v3,0;v2,0;");
        due.is("guests(1)", x.guests(1), 1);
        due.is("guests(2)", x.guests(2), 3);
        due.is("guests(4)", x.guests(4), 7);
        int[] fewest = {0, 1, 0, 2, 0, 0, 0, 4};
        for (int told = 1; told < 8; told++) {
            due.is("fewest(" + told + ", 1)", x.fewest(told, 1), fewest[told] == 0 ? Due.NONE : fewest[told]);
        }
        due.is("fewest(15, 1)", x.fewest(15, 1), 0);
        due.is("fewest(16, 1)", x.fewest(16, 1), Due.BAD);
    }

    // ---- harsh: "the least STRICT (0 to 8) by which all of these would be LET IN"

    private static void harshZeroToEight() {
        LampSquares x = Due.at(MOST);
        for (int many = 0; many <= 8; many++) {
            due.is("harsh(1, the first " + many + ")", x.harsh(1, (1 << many) - 1), many);
            due.is("harsh(31, the first " + many + ")", x.harsh(31, (1 << many) - 1), many);
            due.is("harsh(16, the first " + many + ")", x.harsh(16, (1 << many) - 1), 0);
        }
        due.is("STRICT stays", x.count(3), 0);
        x.strict(8);
        due.is("harsh(1, 1), whatever STRICT is", x.harsh(1, 1), 1);
    }

    private static void harshOfNobody() {
        due.is("harsh(0, 255)", Due.at(MOST).harsh(0, 255), 0);
        due.is("harsh(0, 0)", Due.at(LEAST).harsh(0, 0), 0);
    }

    private static void harshByNoSquares() {
        due.is("harsh(31, 0)", Due.at(MOST).harsh(31, 0), 0);
        due.is("harsh(3, 3): none counts", Due.at("d1,0;u9;h9;v0,0;v9,9;").harsh(3, 3), 0);
    }

    // ---- keen

    /** "NONE: none COUNTS". */
    private static void keenNoneCounts() {
        LampSquares x = Due.at("d5,0;u5;h5;u9;v9,9;v0,0;");
        due.is("keen(0)", x.keen(0), Due.NONE);
        due.is("keen(1)", x.keen(1), Due.NONE);
        due.is("keen(2)", x.keen(2), Due.BAD);
        x.settle(2);
        due.is("keen(0): the last counts", x.keen(0), 2);
        due.is("keen(1): one is wrong, one is not", x.keen(1), 0);
        x.undo();
        due.is("keen(0)", x.keen(0), Due.NONE);
    }

    /** "of several the first". */
    private static void keenTheFirstOfSeveral() {
        LampSquares x = Due.at("d5,0;k0;k9;k9;k9;v9,0;v0,0;");
        due.is("keen(0): 0, 1, 2, 3 differ by 2, 0, 0, 0", x.keen(0), 1);
        x.share(1, 0);
        due.is("keen(0): 2, 2, 0, 0", x.keen(0), 2);
        x.share(2, 0);
        due.is("keen(0): 2, 2, 2, 0", x.keen(0), 3);
        x.share(3, 0);
        due.is("keen(0): 2, 2, 2, 2", x.keen(0), 0);
        due.is("keen(1)", x.keen(1), 2);
    }

    /** All of five are WRONG, none of five: by 5. */
    private static void keenByAllAndByNone() {
        LampSquares x = Due.at("d1,0;k9;v0,0;v0,0;v0,0;v0,0;v0,0;");
        due.is("keen(1): all are wrong", x.keen(1), 5);
        x.share(0, 0);
        due.is("keen(1): none is wrong", x.keen(1), 5);
        due.is("keen(0)", x.keen(0), 0);
        due.is("keen(1) of one visitor", Due.at(LEAST).keen(1), 1);
    }

    /** "of all VISITORS, the numbers of those who are WRONG and who are not": 1 to 4 of five. */
    private static void keenOfAllVisitors() {
        int[] differ = {5, 3, 1, 1, 3, 5};
        for (int wrong = 0; wrong <= 5; wrong++) {
            String text = "d1,0;k9;";
            for (int v = 0; v < 5; v++) {
                text += v < wrong ? "v0,0;" : "v9,0;";
            }
            due.is("keen(1), " + wrong + " are wrong", Due.at(text).keen(1), differ[wrong]);
        }
    }

    // ---- tells

    /** "NONE": all pairs are told apart, or there is no pair. */
    private static void tellsNone() {
        LampSquares x = Due.at(LEAST);
        due.is("tells(1, 0) of one visitor", x.tells(1, 0), 0);
        due.is("tells(1, 1) of one visitor", x.tells(1, 1), Due.NONE);
        due.is("tells(0, 1) of one visitor", x.tells(0, 1), Due.NONE);
        LampSquares y = Due.at("d1,0;k9;v0,0;v9,0;");
        due.is("tells(1, 0)", y.tells(1, 0), 1);
        due.is("tells(1, 1)", y.tells(1, 1), Due.NONE);
        due.is("tells(0, 0)", y.tells(0, 0), 0);
        due.is("tells(0, 1)", y.tells(0, 1), 1);
    }

    /** Ten pairs of five, at most. */
    private static void tellsAllPairs() {
        LampSquares x = Due.at("d1,0;k1;k2;k3;k4;k5;k6;k7;k8;v9,0;v8,0;v7,0;v6,0;v5,0;");
        due.is("tells(255, 0)", x.tells(255, 0), 10);
        due.is("tells(255, 1)", x.tells(255, 1), Due.NONE);
        due.is("tells(15, 0)", x.tells(15, 0), 10);
        due.is("tells(240, 0)", x.tells(240, 0), 0);
        due.is("tells(240, 1)", x.tells(240, 1), 1);
        due.is("tells(1, 0)", x.tells(1, 0), 4);
        due.is("tells(2, 0)", x.tells(2, 0), 6);
        due.is("tells(2, 1)", x.tells(2, 1), 1);
        due.is("tells(1, 1)", x.tells(1, 1), 12);
    }

    /** "(10 times the lesser, and the greater)": from 0 and 1 to 3 and 4. */
    private static void tellsTheFirstPair() {
        String[] cares = {"99123", "91923", "91293", "91239", "19923", "19293", "19239", "12993", "12939", "12399"};
        int[] pairs = {1, 2, 3, 4, 12, 13, 14, 23, 24, 34};
        for (int i = 0; i < cares.length; i++) {
            String text = "d1,0;k1;k9;k8;k7;";
            for (int v = 0; v < 5; v++) {
                text += "v" + cares[i].charAt(v) + ",0;";
            }
            LampSquares x = Due.at(text);
            due.is("tells(15, 1) of " + cares[i], x.tells(15, 1), pairs[i]);
            due.is("tells(15, 0) of " + cares[i], x.tells(15, 0), 9);
        }
    }

    /** "(whether it COUNTS or not)". */
    private static void tellsWhetherItCountsOrNot() {
        LampSquares x = Due.at("d1,0;u9;h9;k0;v9,9;v0,9;");
        due.is("tells(1, 0), unknown", x.tells(1, 0), 1);
        due.is("tells(2, 0), heard", x.tells(2, 0), 1);
        due.is("tells(4, 0)", x.tells(4, 0), 0);
        x.settle(0);
        due.is("tells(1, 0), settled", x.tells(1, 0), 1);
    }

    // ---- learned, needs

    private static LampSquares voted(int votesFor, int votesAgainst) {
        LampSquares x = Due.at("d5,0;u9;v9,0;v0,0;");
        for (int i = 0; i < votesFor; i++) {
            x.pose(0, 1);
        }
        for (int i = 0; i < votesAgainst; i++) {
            x.pose(1, 1);
        }
        return x;
    }

    /** "2, if more VOTES are for a LAMP than against, 1 as many, 0 fewer". */
    private static void learnedTwoOneZero() {
        int[][] votes = {{0, 0, 1}, {1, 0, 2}, {0, 1, 0}, {1, 1, 1}, {2, 1, 2}, {1, 2, 0}, {99, 99, 1}, {99, 98, 2},
            {98, 99, 0}, {99, 0, 2}, {0, 99, 0}};
        for (int[] v : votes) {
            LampSquares x = voted(v[0], v[1]);
            due.is("learned(0) by " + v[0] + ", " + v[1], x.learned(0), v[2]);
            x.settle(0);
            due.is("learned(0), settled", x.learned(0), v[2]);
        }
        due.is("learned(0) of a known one", Due.at(LEAST).learned(0), 1);
    }

    /** "how many more VOTES for a LAMP alone, if it would be SETTLED as none": more than against it takes. */
    private static void needsOneMoreForALamp() {
        due.is("needs(0) by 0, 0", voted(0, 0).needs(0), 1);
        due.is("needs(0) by 1, 1", voted(1, 1).needs(0), 1);
        due.is("needs(0) by 0, 1", voted(0, 1).needs(0), 2);
        due.is("needs(0) by 3, 7", voted(3, 7).needs(0), 5);
    }

    /** "or against alone, if as a LAMP": as many settle it as none. */
    private static void needsAsManyAgainst() {
        due.is("needs(0) by 1, 0", voted(1, 0).needs(0), 1);
        due.is("needs(0) by 2, 1", voted(2, 1).needs(0), 1);
        due.is("needs(0) by 7, 3", voted(7, 3).needs(0), 4);
    }

    private static void needsAtNinetyNine() {
        due.is("needs(0) by 99, 0", voted(99, 0).needs(0), 99);
        due.is("needs(0) by 99, 98", voted(99, 98).needs(0), 1);
        due.is("needs(0) by 98, 99", voted(98, 99).needs(0), 2);
        due.is("needs(0) by 0, 98", voted(0, 98).needs(0), 99);
        due.is("needs(0) by 0, 99", voted(0, 99).needs(0), 100);
        due.is("needs(0) by 99, 99", voted(99, 99).needs(0), 1);
    }

    /** "make it the other way": by one fewer it is not, by as many it is. */
    private static void needsMakesItTheOtherWay() {
        int[][] votes = {{0, 0}, {0, 3}, {3, 0}, {2, 2}, {5, 4}, {4, 5}};
        for (int[] v : votes) {
            LampSquares x = voted(v[0], v[1]);
            int needs = x.needs(0);
            boolean lamp = v[0] > v[1];
            for (int i = 1; i < needs; i++) {
                x.pose(lamp ? 1 : 0, 1);
            }
            due.is("one fewer leaves it as it is", x.settle(0), lamp ? 1 : 0);
            x.undo();
            x.pose(lamp ? 1 : 0, 1);
            due.is("as many make it the other way", x.settle(0), lamp ? 0 : 1);
        }
    }

    // ---- save: "the fewest SQUARES of it that let in the very same VISITORS"

    private static void saveOfTheEmptySet() {
        LampSquares x = Due.at(MOST);
        due.is("save(0, 0)", x.save(0, 0), 0);
        due.is("save(0, 1)", x.save(0, 1), 0);
        due.is("save(1, 0) of one who is never wrong", Due.at(LEAST).save(1, 0), 0);
        due.is("save(3, 1): none counts", Due.at("d1,0;u9;h9;v0,0;").save(3, 1), 0);
    }

    private static void saveOfAll() {
        LampSquares x = Due.at(MOST);
        for (int strict = 0; strict <= 8; strict++) {
            x.strict(strict);
            due.is("save(255, 0)", x.save(255, 0), strict == 8 ? 0 : strict + 1);
            due.is("save(255, 1)", x.save(255, 1), strict == 8 ? 0 : (2 << strict) - 1);
        }
        due.is("save(256, 0)", x.save(256, 0), Due.BAD);
    }

    /** "which (bits), of several the least", and "of it" alone. */
    private static void saveTheLeastOfSeveral() {
        LampSquares x = Due.at(MOST);
        for (int s = 0; s < 8; s++) {
            int from = 255 & ~((1 << s) - 1);
            due.is("save(" + from + ", 0)", x.save(from, 0), 1);
            due.is("save(" + from + ", 1)", x.save(from, 1), 1 << s);
        }
        due.is("save(170, 1)", x.save(170, 1), 2);
        x.strict(2);
        due.is("save(170, 1)", x.save(170, 1), 42);
        due.is("save(168, 1)", x.save(168, 1), 168);
        due.is("save(160, 1)", x.save(160, 1), 0);
    }

    /** As with fewest: one square is fewer than two of lesser bits, but it has to be of the set. */
    private static void saveHowManyAheadOfLeast() {
        LampSquares x = oneSquareOrTwoLesser();
        due.is("save(7, 0)", x.save(7, 0), 1);
        due.is("save(7, 1)", x.save(7, 1), 4);
        due.is("save(3, 0)", x.save(3, 0), 2);
        due.is("save(3, 1)", x.save(3, 1), 3);
        due.is("save(5, 1)", x.save(5, 1), 4);
    }

    /** Neither more VISITORS nor others: one square for each that is to stay out. */
    private static void saveTheVerySame() {
        LampSquares x = Due.at("d5,0;k5;k6;k7;v5,0;v4,0;v3,0;v2,0;");
        for (int set = 0; set < 8; set++) {
            int least = set & -set;
            due.is("save(" + set + ", 1): the strictest alone", x.save(set, 1), least);
            due.is("it lets in the same", x.guests(least), x.guests(set));
        }
        LampSquares y = Due.at("d5,0;k5;k4;k5;v5,0;v6,0;v3,0;");
        due.is("save(7, 1): the second at 4, the third at 5", y.save(7, 1), 3);
        due.is("save(6, 1)", y.save(6, 1), 6);
        due.is("save(5, 1)", y.save(5, 1), 1);
    }

    // ---- shares, kinds, who, cares

    /** "SHARE (0 to 9, bits) of it by which it is so": both ends. */
    private static void sharesZeroToNine() {
        for (int care = 0; care <= 9; care++) {
            LampSquares x = Due.at("d1,0;k0;v" + care + ",0;");
            x.row(0, 0, 1);
            int least = 10 - care;
            due.is("shares of no click", x.shares(0, 0, 0), (1 << least) - 1);
            x.set(0, 0, 1);
            due.is("shares of a click", x.shares(0, 0, 0), 1023 - ((1 << least) - 1));
        }
        LampSquares x = Due.at("d1,0;c5;e5;h5;v4,4;v9,5;");
        Due.tell(x, 0, 0, 0, 1, 1, 0, 1);
        due.is("crooked: not by either", x.shares(0, 0, 0), 0);
        due.is("crooked: by both, the first up to 3, the second from 1 on", x.shares(0, 0, 2), 2 + 4 + 8);
        due.is("crooked: by the second alone", x.shares(0, 0, 4), 1023 - 15);
        due.is("crooked: by the first alone", x.shares(0, 0, 3), 1);
        due.is("edged: by neither", x.shares(1, 0, 0), 3);
        due.is("edged: by both", x.shares(1, 0, 2), 128 + 256 + 512);
        due.is("heard: by neither", x.shares(2, 0, 0), 1);
        due.is("heard: by the second alone", x.shares(2, 0, 4), 1022);
    }

    /** "KINDS (bits 1 to 5) of it by which it is so": all of them, none, never bit 0 nor 6. */
    private static void kindsOneToFive() {
        LampSquares x = Due.at("d1,0;k0;k9;v5,5;v0,0;");
        Due.tell(x, 0, 0, 0, 0, 1, 0);
        due.is("all kinds of none", x.kinds(0, 0, 0), 62);
        due.is("no kind of a full one", x.kinds(1, 0, 0), 0);
        due.is("no kind, as the second clicks nothing", x.kinds(1, 0, 2), 0);
        due.is("all kinds of a full one", x.kinds(1, 0, 3), 62);
        due.is("no kind of none", x.kinds(0, 0, 3), 0);
        LampSquares y = Due.at("d1,0;h5;v5,4;v4,5;v9,0;");
        Due.tell(y, 0, 1, 0, 1, 0, 0, 0, 0, 0, 1);
        due.is("known, unknown of 5; crooked by CARE 4 sees 4", y.kinds(0, 0, 0), 2 + 8 + 16);
        due.is("heard: who hears is not careful enough", y.kinds(0, 0, 3), 32);
        due.is("edged of 5: only the most careful", y.kinds(0, 0, 6), 4);
        y.share(0, 9);
        Due.tell(y, 1, 0, 1, 0);
        due.is("heard of 9: who hears", y.kinds(0, 1, 0), 32);
        y.share(0, 0);
        due.is("crooked of 0: who is not careful", y.kinds(0, 1, 0), 8);
    }

    /** "a row tells whether (1, 0)": any other item tells neither, so nothing fits; it is read as the lane has it. */
    private static void itemsThatTellNeither() {
        LampSquares x = Due.at("d1,0;k5;v5,0;");
        int[] others = {2, -1, 127, -128, 10};
        x.row(0, 0, 1);
        for (int v : others) {
            x.set(0, 0, v);
            due.is("shares by " + v, x.shares(0, 0, 0), 0);
            due.is("kinds by " + v, x.kinds(0, 0, 0), 0);
            due.is("who by " + v, x.who(0, 0), 0);
            due.is("cares by " + v, x.cares(0, 0, 0), 0);
        }
        x.set(0, 0, 257);
        due.is("a byte of 257 is 1", x.shares(0, 0, 0), 1023 - 31);
        due.is("a byte of 257 is 1", x.who(0, 0), 1);
        x.row(1, 2, 1);
        x.set(1, 0, 257);
        due.is("an int of 257 is not", x.shares(0, 1, 0), 0);
        due.is("an int of 257 is not", x.who(1, 0), 0);
    }

    /** "as many ITEMS as VISITORS of a ROW from i on": 1 to 5, up to the end of 0 to 40. */
    private static void asManyItemsAsVisitors() {
        String text = "d1,0;k9;";
        for (int visitors = 1; visitors <= 5; visitors++) {
            text += "v0,0;";
            LampSquares x = Due.at(text);
            for (int n : new int[] {0, 1, 2, 3, 4, 5, 40}) {
                x.row(0, 1, n);
                for (int i = Math.max(n - 6, 0); i <= n + 1; i++) {
                    boolean there = i + visitors <= n;
                    due.is("shares(0, 0, " + i + ") of " + n, x.shares(0, 0, i), there ? 1023 : Due.PLACE);
                    due.is("kinds(0, 0, " + i + ") of " + n, x.kinds(0, 0, i), there ? 62 : Due.PLACE);
                }
                due.is("shares(0, 0, -1)", x.shares(0, 0, -1), Due.PLACE);
                due.is("kinds(0, 0, -1)", x.kinds(0, 0, -1), Due.PLACE);
            }
        }
    }

    private static void whoOfNoneAndAll() {
        LampSquares x = Due.at("d1,0;k9;k1;v5,0;v5,9;v6,0;v7,0;v8,0;");
        Due.tell(x, 0, 1, 0, 0, 1, 1);
        due.is("all click so", x.who(0, 0), 31);
        due.is("none clicks so", x.who(0, 1), 0);
        due.is("none clicks so", x.who(0, 2), 0);
        due.is("none clicks so", x.who(0, 3), 0);
        x.share(1, 2);
        due.is("the last clicks both", x.who(0, 3), 16);
        x.share(1, 5);
        due.is("all click both", x.who(0, 3), 31);
    }

    /** "CARE (0 to 9, bits) by which it is so": both ends. */
    private static void caresZeroToNine() {
        for (int share = 0; share <= 9; share++) {
            LampSquares x = Due.at("d1,0;k" + share + ";v0,0;");
            x.row(0, 0, 1);
            int least = 10 - share;
            due.is("cares of no click", x.cares(0, 0, 0), Math.min(1 << least, 1024) - 1);
            x.set(0, 0, 1);
            due.is("cares of a click", x.cares(0, 0, 0), 1024 - Math.min(1 << least, 1024));
        }
        LampSquares x = Due.at("d1,0;c2;v0,0;");
        Due.tell(x, 0, 1, 0);
        due.is("a crooked one of 2 looks 7 up to CARE 4", x.cares(0, 0, 0), 8 + 16 + 256 + 512);
        due.is("and is not clicked by the others", x.cares(0, 0, 1), 1023 - 8 - 16 - 256 - 512);
    }

    /** "CARES for an EAR (0 to 9)": from 5 on it hears. */
    private static void earsZeroToNine() {
        LampSquares x = Due.at("d1,0;h5;v0,0;");
        x.row(0, 0, 2);
        x.set(0, 1, 1);
        for (int ear = 0; ear <= 9; ear++) {
            due.is("cares(" + ear + ", 0, 0)", x.cares(ear, 0, 0), ear < 5 ? 1023 : 31);
            due.is("cares(" + ear + ", 0, 1)", x.cares(ear, 0, 1), ear < 5 ? 0 : 1023 - 31);
        }
        due.is("cares(10, 0, 0)", x.cares(10, 0, 0), Due.BAD);
        due.is("cares(-1, 0, 0)", x.cares(-1, 0, 0), Due.BAD);
    }

    /** "as many ITEMS as SQUARES of a ROW from i on": 1 to 8, up to the end of 0 to 40. */
    private static void asManyItemsAsSquares() {
        String text = "d1,0;";
        for (int squares = 1; squares <= 8; squares++) {
            text += "k9;";
            LampSquares x = Due.at(text + "v0,0;");
            for (int n : new int[] {0, 1, 2, 7, 8, 9, 40}) {
                x.row(0, 1, n);
                for (int i = Math.max(n - 9, 0); i <= n + 1; i++) {
                    boolean there = i + squares <= n;
                    due.is("who(0, " + i + ") of " + n, x.who(0, i), there ? 1 : Due.PLACE);
                    due.is("cares(0, 0, " + i + ") of " + n, x.cares(0, 0, i), there ? 1 : Due.PLACE);
                }
                due.is("who(0, -1)", x.who(0, -1), Due.PLACE);
                due.is("cares(0, 0, -1)", x.cares(0, 0, -1), Due.PLACE);
            }
        }
    }

    // ---- slip

    private static void slip(LampSquares x, int visitor, int set, int p, long above, long below) {
        String call = "slip(" + visitor + ", " + set + ", " + p + ", ";
        due.is(call + "0)", x.slip(visitor, set, p, 0), above);
        due.is(call + "1)", x.slip(visitor, set, p, 1), below);
    }

    /** By no squares, or none that counts, he is LET IN: 1 by 1. */
    private static void slipOfNone() {
        LampSquares x = Due.at("d1,0;u9;h9;k9;v0,0;");
        for (int p = 0; p <= 10; p++) {
            slip(x, 0, 0, p, 1, 1);
            slip(x, 0, 1, p, 1, 1);
            slip(x, 0, 3, p, 1, 1);
        }
    }

    /** "(0 to 10)": by 0 all is as it is, by 10 all is the other way; "(0 is 0 by 1)". */
    private static void slipByZeroAndTen() {
        LampSquares x = Due.at(MOST);
        for (int set : new int[] {1, 128, 255}) {
            slip(x, 0, set, 0, 0, 1);
            slip(x, 0, set, 10, 1, 1);
            slip(x, 4, set, 0, 1, 1);
            slip(x, 4, set, 10, 0, 1);
        }
    }

    /** "told as two numbers in lowest terms". */
    private static void slipInLowestTerms() {
        int[][] terms = {{0, 1}, {1, 10}, {1, 5}, {3, 10}, {2, 5}, {1, 2}, {3, 5}, {7, 10}, {4, 5}, {9, 10}, {1, 1}};
        LampSquares x = Due.at(MOST);
        for (int p = 0; p <= 10; p++) {
            slip(x, 0, 1, p, terms[p][0], terms[p][1]);
            slip(x, 4, 1, 10 - p, terms[p][0], terms[p][1]);
            slip(x, 4, 3, 10 - p, terms[p][0] * terms[p][0], terms[p][1] * terms[p][1]);
        }
        x.strict(1);
        slip(x, 0, 3, 5, 3, 4);
        slip(x, 0, 3, 2, 9, 25);
        slip(x, 0, 7, 5, 1, 2);
    }

    /** "at the SQUARES of a set that COUNT": a settled one among them, by what it was settled as. */
    private static void slipAtSquaresThatCount() {
        LampSquares x = Due.at("d5,0;u9;k9;v9,0;v0,0;");
        slip(x, 0, 3, 1, 9, 10);
        slip(x, 1, 3, 1, 1, 10);
        x.settle(0);
        slip(x, 0, 3, 1, 9, 100);
        slip(x, 1, 3, 1, 9, 100);
        slip(x, 0, 2, 1, 9, 10);
        slip(x, 0, 1, 1, 1, 10);
    }

    /** LET IN, if WRONG at STRICT or fewer: all cases, once STRICT is as many as there are. */
    private static void slipByStrictOrFewer() {
        LampSquares x = Due.at("d1,0;k9;k9;k9;v9,0;");
        int[] above = {1, 1, 7, 1, 1, 1, 1, 1, 1};
        int[] below = {8, 2, 8, 1, 1, 1, 1, 1, 1};
        for (int strict = 0; strict <= 8; strict++) {
            x.strict(strict);
            slip(x, 0, 7, 5, above[strict], below[strict]);
        }
    }

    /** Eight squares: 10 to the 8th below, at most. */
    private static void slipTheGreatestFractions() {
        LampSquares x = Due.at(MOST);
        slip(x, 4, 255, 1, 43046721, 100000000);
        slip(x, 4, 255, 3, 5764801, 100000000);
        slip(x, 4, 255, 9, 1, 100000000);
        slip(x, 0, 255, 1, 1, 100000000);
        slip(x, 0, 255, 9, 43046721, 100000000);
        slip(x, 4, 255, 5, 1, 256);
        slip(x, 4, 255, 2, 65536, 390625);
        x.strict(7);
        slip(x, 4, 255, 9, 56953279, 100000000);
        slip(x, 0, 255, 1, 56953279, 100000000);
        slip(x, 4, 255, 1, 99999999, 100000000);
        slip(x, 4, 255, 5, 255, 256);
        x.strict(8);
        slip(x, 4, 255, 9, 1, 1);
    }

    // ---- drawn

    /** "DAYS of n (0 to 60)": in none nobody is LET IN, and the VOTES are as they are. */
    private static void daysOfNone() {
        LampSquares x = voted(3, 4);
        for (int seed : new int[] {1, 2, 999999}) {
            due.is("drawn(0, " + seed + ", 0)", x.drawn(0, seed, 0), 0);
            due.is("drawn(0, " + seed + ", 1)", x.drawn(0, seed, 1), 7);
        }
        due.is("drawn(0, 1, 1)", Due.at(LEAST).drawn(0, 1, 1), 0);
    }

    /** "by a SEED (X at first): in each X becomes the rest of (X times 16807) by 2147483647": the first of them. */
    private static void daysByTheSeed() {
        LampSquares x = Due.at("d1,0;u9;v9,0;v0,0;v0,0;v0,0;v0,0;");
        due.is("seed 1, X 16807: visitor 2 is asked bit 0", x.drawn(1, 1, 1), 1);
        due.is("seed 1: he is let in", x.drawn(1, 1, 0), 1);
        due.is("seed 2, X 33614: bit 0 is not asked", x.drawn(1, 2, 1), 0);
        due.is("seed 2: he is let in", x.drawn(1, 2, 0), 1);
        due.is("seed 999999, X 1774597664: bit 0 is not asked", x.drawn(1, 999999, 1), 0);
        due.is("seed 999999", x.drawn(1, 999999, 0), 1);
    }

    /** The same days, told by longs here: over two, of which none stays within an int as it is multiplied. */
    private static void daysThatPassTheGreatestInt() {
        for (int visitors = 1; visitors <= 5; visitors++) {
            String text = "d1,0;u1;u1;u1;u1;u1;u1;u1;k9;";
            for (int v = 0; v < visitors; v++) {
                text += v == 0 || v == 3 ? "v9,0;" : "v0,0;";
            }
            LampSquares x = Due.at(text);
            for (int seed : new int[] {1, 127773, 127774, 500000, 999998, 999999}) {
                long day = seed;
                int letIn = 0;
                int votes = 0;
                for (int n = 1; n <= 12; n++) {
                    day = day * 16807L % 2147483647L;
                    int visitor = (int) (day % visitors);
                    int squares = (int) (day % 256);
                    boolean right = visitor == 0 || visitor == 3 || squares < 128;
                    letIn += right ? 1 : 0;
                    votes += right ? Integer.bitCount(squares & 127) : 0;
                    if (n % 4 == 0) {
                        due.is("drawn(" + n + ", " + seed + ", 0)", x.drawn(n, seed, 0), letIn);
                        due.is("drawn(" + n + ", " + seed + ", 1)", x.drawn(n, seed, 1), votes);
                    }
                }
            }
        }
    }

    /** "the SQUARES that are the bits of the rest of X by 256, as far as there are such": 1 to 8 squares. */
    private static void daysAsFarAsThereAreSquares() {
        String text = "d1,0;";
        int[] votes = {0, 1, 2, 3, 3, 3, 4, 4, 5};
        for (int squares = 1; squares <= 8; squares++) {
            text += "u1;";
            LampSquares x = Due.at(text + "v9,0;");
            due.is("16807 is 167 by 256: " + squares + " squares", x.drawn(1, 1, 1),
                    Integer.bitCount(167 & (1 << squares) - 1));
            due.is("by hand", x.drawn(1, 1, 1), votes[squares]);
        }
    }

    /** "VOTES of all then, added": 99 of each at most there, too. */
    private static void daysEndAtNinetyNine() {
        LampSquares x = voted(99, 98);
        due.is("drawn(60, 1, 1)", x.drawn(60, 1, 1), 198);
        due.is("drawn(60, 1, 0)", x.drawn(60, 1, 0), 60);
        due.is("count(5) stays", x.count(5), 197);
        LampSquares y = voted(99, 99);
        due.is("drawn(60, 999999, 1)", y.drawn(60, 999999, 1), 198);
    }

    /** 16807 is 167 by 256: squares 0, 1, 2 are asked. Settled ones have no more votes; who is wrong adds none. */
    private static void daysLetInBySettledAndStrict() {
        LampSquares x = Due.at("d1,0;u9;u9;u9;v9,0;");
        due.is("drawn(1, 1, 1)", x.drawn(1, 1, 1), 3);
        x.settle(0);
        due.is("he is wrong at the first, settled as none", x.drawn(1, 1, 0), 0);
        due.is("drawn(1, 1, 1)", x.drawn(1, 1, 1), 0);
        x.strict(1);
        due.is("drawn(1, 1, 0)", x.drawn(1, 1, 0), 1);
        due.is("the settled one has no vote", x.drawn(1, 1, 1), 2);
    }

    /** FORETOLD "(nothing changes)": the same days again are the same. */
    private static void daysChangeNothing() {
        LampSquares x = Due.at("d1,0;u9;k9;u1;v9,0;v0,0;");
        x.pose(0, 7);
        String ahead = State.ofDoor(x);
        int letIn = x.drawn(60, 5, 0);
        int votes = x.drawn(60, 5, 1);
        due.is("drawn(60, 5, 0) again", x.drawn(60, 5, 0), letIn);
        due.is("drawn(60, 5, 1) again", x.drawn(60, 5, 1), votes);
        due.holds("the door stays", State.ofDoor(x).equals(ahead));
    }

    // ---- images

    /** "An IMAGE (0, 1)": two, each of its own; what is done later does not reach them. */
    private static void imagesOfTheirOwn() {
        LampSquares x = Due.at("d4,1;k6;u5;h7;v9,9;v0,0;");
        String first = State.ofDoor(x).replaceAll("count 6: .*", "");
        due.is("image(0)", x.image(0), 1);
        due.is("restore(1)", x.restore(1), Due.STATE);
        x.pose(0, 7);
        x.settle(1);
        x.strict(8);
        x.share(2, 0);
        String second = State.ofDoor(x).replaceAll("count 6: .*", "");
        due.is("image(1)", x.image(1), 1);
        due.is("count(6): an image is no act", x.count(6), 4);
        for (int i = 0; i < 2; i++) {
            due.is("restore(0)", x.restore(0), 1);
            due.holds("the first", State.ofDoor(x).replaceAll("count 6: .*", "").equals(first));
            x.pose(1, 7);
            x.settle(2);
            due.is("restore(1)", x.restore(1), 1);
            due.holds("the second", State.ofDoor(x).replaceAll("count 6: .*", "").equals(second));
            x.pose(1, 4);
            x.strict(0);
        }
    }

    /** All of a full door: each of eight squares has votes for and against, each of five visitors was asked. */
    private static void imageOfAFullDoor() {
        LampSquares x = Due.at("d9,8;u1;u2;u3;u4;u5;u6;u7;u8;v9,0;v9,1;v9,2;v9,3;v0,4;");
        for (int v = 0; v < 5; v++) {
            x.pose(v, 255);
            x.pose(4, 255);
        }
        String kept = State.ofDoor(x).replaceAll("count 6: .*", "");
        due.is("image(0)", x.image(0), 1);
        due.is("door()", Due.read(x, "d1,0;h0;h0;h0;h0;h0;h0;h0;h0;v1,9;v1,9;v1,9;v1,9;v1,9;"), 8);
        due.is("restore(0)", x.restore(0), 1);
        due.holds("all of it", State.ofDoor(x).replaceAll("count 6: .*", "").equals(kept));
    }

    private static void imageInPlaceOfTheOneBefore() {
        LampSquares x = Due.at(LEAST);
        for (int n = 1; n <= 8; n++) {
            x.strict(n);
            due.is("image(1)", x.image(1), 1);
            x.strict(0);
            due.is("restore(1)", x.restore(1), 1);
            due.is("count(3)", x.count(3), n);
        }
        Due.read(x, "d2,5;u1;e2;v3,4;v5,6;");
        due.is("image(1) of another door", x.image(1), 1);
        Due.read(x, LEAST);
        due.is("restore(1)", x.restore(1), 1);
        due.is("count(1)", x.count(1), 2);
        due.is("count(2)", x.count(2), 2);
        due.is("count(3)", x.count(3), 5);
    }

    /** "(no ACT can be undone then)"; a restore that is refused leaves them. */
    private static void restoreTakesNoActBack() {
        LampSquares x = Due.at(LEAST);
        x.image(0);
        for (int i = 0; i < 24; i++) {
            x.strict(i % 9);
        }
        due.is("restore(1)", x.restore(1), Due.STATE);
        due.is("restore(2)", x.restore(2), Due.BAD);
        due.is("count(6)", x.count(6), 24);
        due.is("restore(0)", x.restore(0), 1);
        due.is("count(6)", x.count(6), 0);
        due.is("undo()", x.undo(), Due.STATE);
        due.is("count(3)", x.count(3), 0);
        x.strict(4);
        due.is("undo()", x.undo(), 0);
        due.is("count(3), not what was ahead of the restore", x.count(3), 0);
        due.is("undo()", x.undo(), Due.STATE);
    }

    /** "FORETOLD (nothing changes)": no call of these leaves anything. */
    private static void foretoldChangesNothing() {
        LampSquares twin = foretelling();
        String untouched = State.all(twin);
        LampSquares x = foretelling();
        x.clicks(0);
        x.wrong(1, 31);
        x.guests(31);
        x.fewest(3, 0);
        x.fewest(3, 1);
        x.harsh(7, 31);
        x.keen(0);
        x.keen(1);
        x.tells(31, 0);
        x.tells(31, 1);
        x.learned(3);
        x.needs(3);
        x.save(31, 0);
        x.save(31, 1);
        x.shares(0, 0, 0);
        x.kinds(0, 0, 0);
        x.who(0, 0);
        x.cares(5, 0, 0);
        x.slip(0, 31, 3, 0);
        x.slip(0, 31, 3, 1);
        x.drawn(60, 7, 0);
        x.drawn(60, 7, 1);
        due.holds("all stays", State.all(x).equals(untouched));
    }

    private static LampSquares foretelling() {
        LampSquares x = Due.at("d4,1;k6;e4;c2;u5;h7;v9,9;v5,2;v0,0;");
        Due.tell(x, 0, 1, 0, 1, 1, 0);
        x.pose(0, 31);
        x.image(1);
        x.settle(4);
        x.ask(1, 0);
        return x;
    }
}
