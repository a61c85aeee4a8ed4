/** Promises 9 to 16, and what the document says of SQUARES, VISITORS and ACTS: each boundary case has a test. */
public final class EdgesOfSquaresTest {
    private static final Due due = new Due("EdgesOfSquaresTest");
    private static final String SORTS = "kecuh";

    public static void main(String[] args) {
        aLampFromEdgeOn();
        seenAsItIs();
        edgedOneLessZeroAtLeast();
        crookedFromCareFiveOn();
        heardFromEarFiveOn();
        clickedIfMoreThanNineLessCare();
        careZeroNeverClicks();
        countedOrNot();
        wrongTheOneWayAndTheOther();
        wrongAtASettledOne();
        letInByStrictOrFewer();
        byNoSquaresAllAreLetIn();
        oneVoteMoreOfEachThatDoesNotCount();
        noVoteIfShutOut();
        ninetyNineForAtMost();
        ninetyNineAgainstAtMost();
        askedAndLetInPassNinetyNine();
        settledByMoreForThanAgainst();
        settledForGood();
        undoOfNone();
        undoTheLatestFirst();
        undoAtAFullDoor();
        undoOfActsByWhichNothingBecomesAnother();
        twentyFourActsAtMost();
        theRingOfActsPassesItsEnd();
        undoneActsAreForgotten();
        whatIsNoAct();
        strictTellsWhatItWas();
        shareTellsWhatItWas();
        lampOfASquareIsByItsShare();
        fiveHundredAndTwelveCalls();
        due.end();
    }

    /** "A SQUARE has a LAMP, if SHARE is EDGE or more." */
    private static void aLampFromEdgeOn() {
        for (int edge = 1; edge <= 9; edge++) {
            for (int sort = 0; sort < 5; sort++) {
                LampSquares x = Due.at("d" + edge + ",0;" + SORTS.charAt(sort) + (edge - 1) + ";v0,0;");
                due.is("SHARE is EDGE less 1", x.square(0, 1), 0);
                x.share(0, edge);
                due.is("SHARE is EDGE", x.square(0, 1), 1);
                x.share(0, Math.min(edge + 1, 9));
                due.is("SHARE is more", x.square(0, 1), 1);
                x.share(0, 0);
                due.is("SHARE is 0", x.square(0, 1), 0);
                x.share(0, 9);
                due.is("SHARE is 9", x.square(0, 1), 1);
            }
        }
    }

    private static int seen(char sort, int share, int care, int ear) {
        return Due.at("d1,0;" + sort + share + ";v" + care + "," + ear + ";").sees(0, 0);
    }

    /** "of a known one, an unknown one SHARE": by every CARE and every EAR. */
    private static void seenAsItIs() {
        for (int share = 0; share <= 9; share++) {
            for (int n = 0; n <= 9; n++) {
                due.is("known", seen('k', share, n, 9 - n), share);
                due.is("unknown", seen('u', share, n, 9 - n), share);
                due.is("known", seen('k', share, n, n), share);
                due.is("unknown", seen('u', share, n, n), share);
            }
        }
    }

    /** "of an edged one SHARE less 1 (0 at least)". */
    private static void edgedOneLessZeroAtLeast() {
        int[] seen = {0, 0, 1, 2, 3, 4, 5, 6, 7, 8};
        for (int share = 0; share <= 9; share++) {
            for (int n = 0; n <= 9; n++) {
                due.is("edged, of " + share, seen('e', share, n, 9 - n), seen[share]);
            }
        }
    }

    /** "of a crooked one 9 less SHARE, if CARE is less than 5, else SHARE". */
    private static void crookedFromCareFiveOn() {
        for (int share = 0; share <= 9; share++) {
            for (int ear = 0; ear <= 9; ear++) {
                due.is("crooked, CARE 0", seen('c', share, 0, ear), 9 - share);
                due.is("crooked, CARE 4", seen('c', share, 4, ear), 9 - share);
                due.is("crooked, CARE 5", seen('c', share, 5, ear), share);
                due.is("crooked, CARE 9", seen('c', share, 9, ear), share);
            }
        }
    }

    /** "of one that is heard SHARE, if EAR is 5 or more, else 0". */
    private static void heardFromEarFiveOn() {
        for (int share = 0; share <= 9; share++) {
            for (int care = 0; care <= 9; care++) {
                due.is("heard, EAR 0", seen('h', share, care, 0), 0);
                due.is("heard, EAR 4", seen('h', share, care, 4), 0);
                due.is("heard, EAR 5", seen('h', share, care, 5), share);
                due.is("heard, EAR 9", seen('h', share, care, 9), share);
            }
        }
    }

    /** "He CLICKS it, if he SEES more than 9 less CARE": as much is not more. */
    private static void clickedIfMoreThanNineLessCare() {
        for (int care = 1; care <= 9; care++) {
            LampSquares x = Due.at("d1,0;k" + (9 - care) + ";k" + (10 - care) + ";v" + care + ",0;");
            due.is("clicks(0) of CARE " + care, x.clicks(0), 2);
            x.share(0, 9);
            due.is("clicks(0) of CARE " + care, x.clicks(0), 3);
            x.share(1, 0);
            due.is("clicks(0) of CARE " + care, x.clicks(0), 1);
        }
    }

    /** By CARE 0 he would have to SEE more than 9, which nothing is; by CARE 9 one is enough. */
    private static void careZeroNeverClicks() {
        LampSquares x = Due.at("d1,0;k9;e9;c0;u9;h9;c9;k1;k0;v0,9;v9,9;");
        due.is("clicks(0) of CARE 0", x.clicks(0), 0);
        due.is("clicks(1) of CARE 9", x.clicks(1), 1 + 2 + 8 + 16 + 32 + 64);
        due.is("sees(0, 2): a crooked one of none looks full", x.sees(0, 2), 9);
    }

    /** "A SQUARE COUNTS, if it is known, edged, crooked, or SETTLED." */
    private static void countedOrNot() {
        LampSquares x = Due.at("d5,0;k0;e0;c0;u0;h0;v0,0;");
        int[] counted = {1, 1, 1, 0, 0};
        for (int s = 0; s < 5; s++) {
            due.is("square(" + s + ", 2)", x.square(s, 2), counted[s]);
        }
        due.is("count(4)", x.count(4), 7);
        x.settle(3);
        due.is("square(3, 2)", x.square(3, 2), 1);
        due.is("count(4)", x.count(4), 15);
        x.settle(4);
        due.is("square(4, 2)", x.square(4, 2), 1);
        due.is("count(4)", x.count(4), 31);
        x.undo();
        due.is("count(4)", x.count(4), 15);
        due.is("count(4) of none that counts", Due.at("d5,0;u0;h0;v0,0;").count(4), 0);
        due.is("count(4) of eight", Due.at("d5,0;k0;k0;k0;k0;k0;k0;k0;k0;v0,0;").count(4), 255);
    }

    /** "WRONG at one that COUNTS, if he CLICKS it and it has no LAMP, or the other way about." */
    private static void wrongTheOneWayAndTheOther() {
        LampSquares x = Due.at("d5,0;k4;k5;k6;u4;u5;u6;v4,0;v5,0;v9,0;");
        int[] clicks = {36, 54, 63};
        int[] wrong = {2, 0, 1};
        for (int v = 0; v < 3; v++) {
            due.is("clicks(" + v + ")", x.clicks(v), clicks[v]);
            for (int s = 0; s < 6; s++) {
                due.is("wrong(" + v + ", " + (1 << s) + ")", x.wrong(v, 1 << s), wrong[v] >> s & 1);
            }
        }
    }

    /** "(if it is SETTLED: is SETTLED as none)": its SHARE tells no more whether he is WRONG. */
    private static void wrongAtASettledOne() {
        LampSquares x = Due.at("d5,0;u9;v9,0;v0,0;");
        due.is("wrong(1, 1), not settled yet", x.wrong(1, 1), 0);
        x.settle(0);
        due.is("settled as none", x.square(0, 5), 0);
        due.is("wrong(0, 1): he clicks it", x.wrong(0, 1), 1);
        due.is("wrong(1, 1): he does not", x.wrong(1, 1), 0);
        x.undo();
        x.pose(0, 1);
        x.settle(0);
        due.is("settled as a lamp", x.square(0, 5), 1);
        due.is("wrong(0, 1): he clicks it", x.wrong(0, 1), 0);
        due.is("wrong(1, 1): he does not", x.wrong(1, 1), 1);
        x.share(0, 0);
        due.is("its share has no lamp now", x.square(0, 1), 0);
        due.is("wrong(0, 1): he does not click it now", x.wrong(0, 1), 1);
        due.is("wrong(1, 1)", x.wrong(1, 1), 1);
    }

    /** "LET IN by a set of SQUARES, if he is WRONG at STRICT of them or fewer": one below, as many, one more. */
    private static void letInByStrictOrFewer() {
        for (int strict = 0; strict <= 8; strict++) {
            LampSquares x = Due.at("d1," + strict + ";k9;k9;k9;k9;k9;k9;k9;k9;v0,0;");
            for (int many = 0; many <= 8; many++) {
                int set = (1 << many) - 1;
                due.is("wrong(0, " + set + ")", x.wrong(0, set), many);
                due.is("guests(" + set + ") by " + strict, x.guests(set), many <= strict ? 1 : 0);
                due.is("pose(0, " + set + ") by " + strict, x.pose(0, set), many <= strict ? 1 : 0);
            }
            due.is("visitor(0, 2)", x.visitor(0, 2), 9);
            due.is("visitor(0, 3)", x.visitor(0, 3), strict + 1);
        }
    }

    /** By an empty set nobody is WRONG, also where STRICT is 0. */
    private static void byNoSquaresAllAreLetIn() {
        LampSquares x = Due.at("d1,0;k9;u9;v0,0;v9,9;");
        due.is("pose(0, 0)", x.pose(0, 0), 1);
        due.is("guests(0)", x.guests(0), 3);
        due.is("wrong(0, 0)", x.wrong(0, 0), 0);
        due.is("no votes", x.count(5), 0);
        due.is("visitor(0, 2)", x.visitor(0, 2), 1);
        due.is("visitor(0, 3)", x.visitor(0, 3), 1);
        due.is("it is an act", x.undo(), 0);
    }

    /** "if he is LET IN, each of them that does not COUNT has one VOTE more, for a LAMP if he CLICKS it, else against". */
    private static void oneVoteMoreOfEachThatDoesNotCount() {
        LampSquares x = Due.at("d5,0;k9;e9;c0;u9;h9;u0;u9;v9,0;v9,9;");
        due.is("pose(0, 63)", x.pose(0, 63), 1);
        int[] votesFor = {0, 0, 0, 1, 0, 0, 0};
        int[] votesAgainst = {0, 0, 0, 0, 1, 1, 0};
        for (int s = 0; s < 7; s++) {
            due.is("square(" + s + ", 3)", x.square(s, 3), votesFor[s]);
            due.is("square(" + s + ", 4)", x.square(s, 4), votesAgainst[s]);
        }
        x.settle(3);
        due.is("pose(1, 24)", x.pose(1, 24), 1);
        due.is("a settled one has none more", x.square(3, 3), 1);
        due.is("nor against it", x.square(3, 4), 0);
        due.is("the other has", x.square(4, 3), 1);
        due.is("count(5)", x.count(5), 4);
    }

    /** He is ASKED, but not LET IN: no VOTES. */
    private static void noVoteIfShutOut() {
        LampSquares x = Due.at("d5,0;k9;u9;v0,0;");
        due.is("pose(0, 3)", x.pose(0, 3), 0);
        due.is("count(5)", x.count(5), 0);
        due.is("visitor(0, 2)", x.visitor(0, 2), 1);
        due.is("visitor(0, 3)", x.visitor(0, 3), 0);
        due.is("it is an act", x.count(6), 1);
        due.is("pose(0, 2)", x.pose(0, 2), 1);
        due.is("count(5)", x.count(5), 1);
    }

    private static void ninetyNineAtMost(LampSquares x, int what) {
        for (int i = 1; i <= 98; i++) {
            x.pose(0, 1);
        }
        due.is("98 votes", x.square(0, what), 98);
        due.is("pose(0, 1), the 99th", x.pose(0, 1), 1);
        due.is("99 votes", x.square(0, what), 99);
        due.is("pose(0, 1), the 100th", x.pose(0, 1), 1);
        due.is("99 votes still", x.square(0, what), 99);
        due.is("none of the others", x.square(0, 7 - what), 0);
        due.is("count(5)", x.count(5), 99);
        due.is("count(6)", x.count(6), 24);
        x.undo();
        due.is("an act that added none takes none back", x.square(0, what), 99);
        x.undo();
        due.is("an act that added one takes it back", x.square(0, what), 98);
    }

    /** "(99 of each at most)": for a LAMP. */
    private static void ninetyNineForAtMost() {
        ninetyNineAtMost(Due.at("d5,0;u9;v9,0;"), 3);
    }

    /** "(99 of each at most)": against. */
    private static void ninetyNineAgainstAtMost() {
        ninetyNineAtMost(Due.at("d5,0;u9;v0,0;"), 4);
    }

    /** How often ASKED, how often LET IN has no end but that of the calls. */
    private static void askedAndLetInPassNinetyNine() {
        LampSquares x = Due.at("d5,0;k9;v0,0;v9,0;");
        for (int i = 1; i <= 120; i++) {
            x.pose(0, 1);
            x.pose(1, 1);
            x.pose(1, 0);
        }
        due.is("visitor(0, 2)", x.visitor(0, 2), 120);
        due.is("visitor(0, 3)", x.visitor(0, 3), 0);
        due.is("visitor(1, 2)", x.visitor(1, 2), 240);
        due.is("visitor(1, 3)", x.visitor(1, 3), 240);
    }

    /** "one that does not COUNT is SETTLED by its VOTES (a LAMP, if more are for it than against)". */
    private static void settledByMoreForThanAgainst() {
        int[][] votes = {{0, 0}, {1, 0}, {0, 1}, {1, 1}, {2, 1}, {1, 2}, {2, 2}, {99, 99}, {99, 98}, {98, 99}, {99, 0}, {0, 99}};
        for (int[] v : votes) {
            LampSquares x = Due.at("d5,0;k0;h9;v9,9;v0,0;");
            for (int i = 0; i < v[0]; i++) {
                x.pose(0, 2);
            }
            for (int i = 0; i < v[1]; i++) {
                x.pose(1, 2);
            }
            String of = " by " + v[0] + " for it, " + v[1] + " against";
            due.is("square(1, 3)" + of, x.square(1, 3), v[0]);
            due.is("square(1, 4)" + of, x.square(1, 4), v[1]);
            due.is("square(1, 5) ahead" + of, x.square(1, 5), Due.NONE);
            due.is("settle(1)" + of, x.settle(1), v[0] > v[1] ? 1 : 0);
            due.is("square(1, 5)" + of, x.square(1, 5), v[0] > v[1] ? 1 : 0);
            due.is("the votes stay" + of, x.count(5), v[0] + v[1]);
        }
    }

    /** "for good": "STATE: it COUNTS", whatever is done but undo, restore and another door. */
    private static void settledForGood() {
        LampSquares x = Due.at("d5,0;k9;u9;v9,9;v0,0;");
        x.pose(0, 2);
        x.image(0);
        due.is("settle(1)", x.settle(1), 1);
        due.is("settle(1) again", x.settle(1), Due.STATE);
        x.pose(1, 2);
        x.pose(1, 2);
        x.share(1, 0);
        x.strict(8);
        due.is("settle(1) again", x.settle(1), Due.STATE);
        due.is("square(1, 5)", x.square(1, 5), 1);
        due.is("square(1, 3)", x.square(1, 3), 1);
        due.is("square(1, 4)", x.square(1, 4), 0);
        due.is("settle(0), that is known", x.settle(0), Due.STATE);
        due.is("what was refused is no act", x.count(6), 6);
        x.restore(0);
        due.is("square(1, 5) as an image kept it", x.square(1, 5), Due.NONE);
        due.is("settle(1)", x.settle(1), 1);
        x.undo();
        due.is("square(1, 5) undone", x.square(1, 5), Due.NONE);
    }

    /** "STATE: none": no door, no act yet, all undone. */
    private static void undoOfNone() {
        LampSquares x = new LampSquares();
        due.is("undo() at no door", x.undo(), Due.STATE);
        Due.read(x, Due.SIX);
        due.is("undo() of no act", x.undo(), Due.STATE);
        x.strict(3);
        due.is("undo()", x.undo(), 0);
        due.is("undo() of no act", x.undo(), Due.STATE);
        due.is("count(6)", x.count(6), 0);
        due.is("count(3)", x.count(3), 1);
    }

    private static void act(LampSquares x, int i) {
        switch (i) {
            case 0:
                x.pose(0, 7);
                break;
            case 1:
                x.settle(1);
                break;
            case 2:
                x.share(0, 9);
                break;
            case 3:
                x.strict(5);
                break;
            default:
                x.pose(1, 6);
        }
    }

    /** "each can be undone, the latest first": "how many can be undone yet". */
    private static void undoTheLatestFirst() {
        LampSquares x = Due.at("d4,1;k6;u5;h7;v9,9;v0,0;");
        String[] doors = new String[5];
        for (int i = 0; i < 5; i++) {
            doors[i] = State.ofDoor(x);
            act(x, i);
        }
        for (int left = 4; left >= 0; left--) {
            due.is("undo()", x.undo(), left);
            due.holds("all is as ahead of act " + left, State.ofDoor(x).equals(doors[left]));
        }
        due.is("undo()", x.undo(), Due.STATE);
    }

    /** The last square and the last visitor of a full door are as they were, too. */
    private static void undoAtAFullDoor() {
        LampSquares x = Due.at("d1,8;u1;u1;u1;u1;u1;u1;u1;u1;v0,0;v0,0;v0,0;v9,9;v9,9;");
        x.pose(4, 255);
        x.pose(0, 255);
        String ahead = State.ofDoor(x);
        due.is("votes for the last", x.square(7, 3), 1);
        due.is("votes against the last", x.square(7, 4), 1);
        due.is("pose(4, 128)", x.pose(4, 128), 1);
        due.is("undo()", x.undo(), 2);
        due.holds("as ahead of pose(4, 128)", State.ofDoor(x).equals(ahead));
        x.pose(0, 128);
        due.is("votes against the last", x.square(7, 4), 2);
        x.undo();
        due.holds("as ahead of pose(0, 128)", State.ofDoor(x).equals(ahead));
        x.share(7, 9);
        x.settle(7);
        x.undo();
        x.undo();
        due.holds("as ahead of share(7, 9) and settle(7)", State.ofDoor(x).equals(ahead));
    }

    /** "also such by which nothing becomes another". */
    private static void undoOfActsByWhichNothingBecomesAnother() {
        LampSquares x = Due.at(Due.SIX);
        due.is("strict(1)", x.strict(1), 1);
        due.is("count(6)", x.count(6), 1);
        due.is("share(0, 6)", x.share(0, 6), 6);
        due.is("count(6)", x.count(6), 2);
        due.is("pose(2, 63), shut out", x.pose(2, 63), 0);
        due.is("count(6)", x.count(6), 3);
        due.is("undo()", x.undo(), 2);
        due.is("undo()", x.undo(), 1);
        due.is("undo()", x.undo(), 0);
        due.is("undo()", x.undo(), Due.STATE);
    }

    /** "24 at most are kept, of more the oldest is forgotten": 23, 24, 25 acts. */
    private static void twentyFourActsAtMost() {
        for (int acts = 23; acts <= 26; acts++) {
            LampSquares x = Due.at("d1,8;k9;v9,0;");
            for (int i = 1; i <= acts; i++) {
                x.share(0, i % 10);
                due.is("count(6)", x.count(6), Math.min(i, 24));
            }
            int kept = Math.min(acts, 24);
            for (int left = kept - 1; left >= 0; left--) {
                due.is("undo()", x.undo(), left);
            }
            due.is("undo()", x.undo(), Due.STATE);
            int stays = acts - kept;
            due.is("what the forgotten ones did stays", x.square(0, 0), stays == 0 ? 9 : stays);
        }
    }

    /** Many more than are kept: each kind of act forgets the oldest. */
    private static void theRingOfActsPassesItsEnd() {
        LampSquares x = Due.at("d1,8;k9;u9;v9,0;");
        int[] poses = new int[80];
        for (int i = 0; i < 80; i++) {
            if (i % 3 == 0) {
                x.strict(i % 9);
            } else if (i % 3 == 1) {
                x.share(0, i % 10);
            } else {
                x.pose(0, 2);
            }
            poses[i] = x.visitor(0, 2);
        }
        due.is("count(6)", x.count(6), 24);
        for (int i = 79; i >= 56; i--) {
            due.is("visitor(0, 2)", x.visitor(0, 2), poses[i]);
            due.is("square(1, 3)", x.square(1, 3), poses[i]);
            due.is("undo()", x.undo(), i - 56);
        }
        due.is("visitor(0, 2)", x.visitor(0, 2), poses[55]);
        due.is("square(0, 0)", x.square(0, 0), 55 % 10);
        due.is("count(3)", x.count(3), 54 % 9);
        due.is("undo()", x.undo(), Due.STATE);
    }

    /** What was undone is not kept any more: the acts after it come in its place. */
    private static void undoneActsAreForgotten() {
        LampSquares x = Due.at("d1,8;k9;v9,0;");
        for (int i = 0; i < 24; i++) {
            x.share(0, i % 10);
        }
        for (int i = 0; i < 10; i++) {
            x.undo();
        }
        due.is("count(6)", x.count(6), 14);
        due.is("square(0, 0)", x.square(0, 0), 13 % 10);
        for (int i = 1; i <= 10; i++) {
            x.strict(i % 9);
            due.is("count(6)", x.count(6), 14 + i);
        }
        x.strict(7);
        due.is("count(6)", x.count(6), 24);
        for (int i = 23; i >= 0; i--) {
            due.is("undo()", x.undo(), i);
        }
        due.is("square(0, 0): the first was forgotten", x.square(0, 0), 0);
        due.is("count(3)", x.count(3), 8);
    }

    /** Nothing but pose, strict, share and settle is an ACT. */
    private static void whatIsNoAct() {
        LampSquares x = Due.at(Due.SIX);
        x.pose(0, 8);
        x.row(0, 0, 6);
        x.set(0, 0, 1);
        x.copy(0, 0, 0, 1, 1);
        x.guests(63);
        x.drawn(60, 1, 0);
        x.slip(0, 63, 5, 0);
        x.fewest(1, 0);
        x.save(63, 0);
        x.who(0, 0);
        x.image(0);
        x.as(0, 0);
        x.ask(0, 0);
        x.drop(0);
        Due.read(x, "d");
        due.is("count(6)", x.count(6), 1);
        due.is("undo()", x.undo(), 0);
        due.is("count(5)", x.count(5), 0);
        due.is("rows are not undone", x.count(0), 0);
        due.is("images are not undone", x.restore(0), 1);
        due.is("count(5)", x.count(5), 1);
    }

    /** "STRICT (0 to 8): what it was." */
    private static void strictTellsWhatItWas() {
        LampSquares x = Due.at("d1,8;k9;v0,0;");
        int was = 8;
        for (int n : new int[] {0, 8, 8, 0, 0, 1, 7, 4}) {
            due.is("strict(" + n + ")", x.strict(n), was);
            due.is("count(3)", x.count(3), n);
            due.is("guests(1)", x.guests(1), n == 0 ? 0 : 1);
            was = n;
        }
        due.is("strict(9)", x.strict(9), Due.BAD);
        due.is("strict(-1)", x.strict(-1), Due.BAD);
        due.is("count(3)", x.count(3), 4);
    }

    /** "SHARE (0 to 9): what it was": of the first and of the last square. */
    private static void shareTellsWhatItWas() {
        LampSquares x = Due.at("d1,8;k9;e3;c3;u3;h3;k3;k3;u0;v9,9;");
        int first = 9;
        int last = 0;
        for (int n : new int[] {0, 9, 9, 0, 5, 1, 8}) {
            due.is("share(0, " + n + ")", x.share(0, n), first);
            due.is("share(7, " + (9 - n) + ")", x.share(7, 9 - n), last);
            first = n;
            last = 9 - n;
            due.is("square(0, 0)", x.square(0, 0), first);
            due.is("square(7, 0)", x.square(7, 0), last);
            due.is("the others stay", x.square(1, 0) + x.square(6, 0), 6);
        }
    }

    /** "1 whether it has a LAMP (1, 0; by SHARE) .. 5 as what it is SETTLED (1, 0; NONE)". */
    private static void lampOfASquareIsByItsShare() {
        LampSquares x = Due.at("d5,0;u9;u0;v9,0;");
        x.settle(0);
        due.is("square(0, 1), settled as none", x.square(0, 1), 1);
        due.is("square(0, 5)", x.square(0, 5), 0);
        x.share(1, 9);
        x.pose(0, 2);
        x.share(1, 0);
        x.settle(1);
        due.is("square(1, 1), settled as a lamp", x.square(1, 1), 0);
        due.is("square(1, 5)", x.square(1, 5), 1);
        due.is("square(1, 2)", x.square(1, 2), 1);
    }

    /** "An object is used for at most 512 calls": up to the last of them the answers are as due. */
    private static void fiveHundredAndTwelveCalls() {
        LampSquares x = Due.at("d5,8;u9;v9,0;");
        int calls = 14;
        while (calls < 508) {
            due.is("pose(0, 1)", x.pose(0, 1), 1);
            calls++;
        }
        due.is("visitor(0, 2), call 509", x.visitor(0, 2), 494);
        due.is("count(5), call 510", x.count(5), 99);
        due.is("undo(), call 511", x.undo(), 23);
        due.is("visitor(0, 3), call 512", x.visitor(0, 3), 493);
    }
}
