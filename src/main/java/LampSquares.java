import java.util.Arrays;

/**
 * All squares with a lamp: squares that hold so much of a lamp, visitors who click them, a door that
 * lets in who is wrong seldom enough. What each call does is told by the document, promise by promise.
 *
 * <p>All arrays are made in the constructors and used again: no call makes an object.
 */
public final class LampSquares {
    public static final int NONE = -1000000, BAD = -1000001, STATE = -1000002, FULL = -1000003;

    /** A finding answers FOUND less its number. */
    private static final int FOUND = -1000010;
    private static final int NULL = 1, PLACE = 2, KIND = 3, SIZE = 4, STORE = 5;

    /** A door that cannot be read answers FAULTY less the place of the fault. */
    private static final int FAULTY = -1000100;
    private static final int OUT_OF_PLACE = 1, WRONG_NUMBER = 2, NO_ROOM = 3;

    private static final int MOST_ROWS = 8, MOST_ITEMS = 40, BYTES = 0, SHORTS = 1, INTS = 2;
    private static final int MOST_BYTES = 120, MOST_FIGURES = 2;
    private static final int MOST_SQUARES = 8, MOST_VISITORS = 5;
    private static final int MOST_VOTES = 99, MOST_ACTS = 24, MOST_TRACED = 16, MOST_DAYS = 60, MOST_SEED = 999999;
    private static final int LEAST_EDGE = 1, MOST_EDGE = 9, MOST_STRICT = 8;
    private static final int MOST_SHARE = 9, MOST_CARE = 9, MOST_EAR = 9;

    /** From this care on a crooked square is seen as it is, from this ear on a heard one is heard. */
    private static final int CAREFUL = 5, HEARING = 5;

    private static final int ANY = 0, KNOWN = 1, EDGED = 2, CROOKED = 3, UNKNOWN = 4, HEARD = 5;
    /** The letter of a kind stands one place ahead of the kind's number. */
    private static final String SORTS = "kecuh";

    private final int[][] items = new int[MOST_ROWS][MOST_ITEMS];
    private final int[] lanes = new int[MOST_ROWS];
    /** How many items a row has; NONE of one that is missing. */
    private final int[] lengths = new int[MOST_ROWS];
    private int finding = 0;

    private final Tape tape = new Tape();
    private int latestFault = 0;

    private final Door here = new Door();
    /** For a door that is being read, and for days that are only foretold. */
    private final Door spare = new Door();
    private final Acts acts = new Acts();
    private final Door[] images = {new Door(), new Door()};

    private final int[] traced = new int[MOST_TRACED];
    private int tracedCount = 0;

    /** By how often a visitor is wrong: in how many of all cases. */
    private final long[] cases = new long[MOST_SQUARES + 1];

    public LampSquares() {
        Arrays.fill(lengths, NONE);
    }

    // ---- rows

    public int row(int row, int lane, int n) {
        if (!isRow(row) || !isIn(lane, BYTES, INTS) || n > MOST_ITEMS) {
            return BAD;
        }
        if (n < 0) {
            return found(SIZE);
        }
        finding = 0;
        lanes[row] = lane;
        lengths[row] = n;
        Arrays.fill(items[row], 0);
        return n;
    }

    public int set(int row, int i, int v) {
        if (!isRow(row)) {
            return BAD;
        }
        int refusal = lookAt(row, i, 1);
        if (refusal != 0) {
            return refusal;
        }
        int kept = lowestBits(v, lanes[row]);
        items[row][i] = kept;
        return kept;
    }

    public int copy(int a, int i, int b, int j, int n) {
        if (!isRow(a) || !isRow(b)) {
            return BAD;
        }
        if (isMissing(a) || isMissing(b)) {
            return found(NULL);
        }
        if (lanes[a] != lanes[b]) {
            return found(STORE);
        }
        if (!hasItems(a, i, n) || !hasItems(b, j, n)) {
            return found(PLACE);
        }
        finding = 0;
        System.arraycopy(items[a], i, items[b], j, n);
        return n;
    }

    public int drop(int row) {
        if (!isRow(row)) {
            return BAD;
        }
        if (isMissing(row)) {
            return found(NULL);
        }
        finding = 0;
        int had = lengths[row];
        lengths[row] = NONE;
        return had;
    }

    // ---- what is told

    public int feed(int letter) {
        if (!isIn(letter, 0, 255)) {
            return BAD;
        }
        return tape.add(letter) ? tape.length : FULL;
    }

    public int door() {
        spare.clear();
        int fault = tape.readInto(spare);
        tape.length = 0;
        if (fault != 0) {
            latestFault = fault;
            return FAULTY - tape.at;
        }
        here.takeFrom(spare);
        acts.forgetAll();
        return here.squares;
    }

    public int fault() {
        return latestFault;
    }

    public int undo() {
        if (acts.kept == 0) {
            return STATE;
        }
        acts.takeBackInto(here);
        return acts.kept;
    }

    // ---- what is done (SQUARES, VISITORS told as bits; BAD: bits beyond)

    public int pose(int visitor, int squares) {
        if (!here.isVisitor(visitor) || !here.areSquares(squares)) {
            return BAD;
        }
        acts.keep(here);
        return here.putTo(visitor, squares) ? 1 : 0;
    }

    public int strict(int n) {
        if (!here.isRead()) {
            return STATE;
        }
        if (!isIn(n, 0, MOST_STRICT)) {
            return BAD;
        }
        acts.keep(here);
        int was = here.strict;
        here.strict = n;
        return was;
    }

    public int share(int square, int n) {
        if (!here.isSquare(square) || !isIn(n, 0, MOST_SHARE)) {
            return BAD;
        }
        acts.keep(here);
        int was = here.shareOf[square];
        here.shareOf[square] = n;
        return was;
    }

    public int settle(int square) {
        if (!here.isSquare(square)) {
            return BAD;
        }
        if (here.isCounted(square)) {
            return STATE;
        }
        acts.keep(here);
        int lamp = here.votesSayLamp(square) ? 1 : 0;
        here.settledAs[square] = lamp;
        return lamp;
    }

    public int square(int square, int what) {
        if (!here.isSquare(square)) {
            return BAD;
        }
        switch (what) {
            case 0:
                return here.shareOf[square];
            case 1:
                return here.shareOf[square] >= here.edge ? 1 : 0;
            case 2:
                return here.isCounted(square) ? 1 : 0;
            case 3:
                return here.votesFor[square];
            case 4:
                return here.votesAgainst[square];
            case 5:
                return here.settledAs[square];
            default:
                return BAD;
        }
    }

    public int visitor(int visitor, int what) {
        if (!here.isVisitor(visitor)) {
            return BAD;
        }
        switch (what) {
            case 0:
                return here.careOf[visitor];
            case 1:
                return here.earOf[visitor];
            case 2:
                return here.timesAsked[visitor];
            case 3:
                return here.timesLetIn[visitor];
            default:
                return BAD;
        }
    }

    public int sees(int visitor, int square) {
        if (!here.isVisitor(visitor) || !here.isSquare(square)) {
            return BAD;
        }
        return seenBy(here.careOf[visitor], here.earOf[visitor], here.kindOf[square], here.shareOf[square]);
    }

    // ---- foretold

    public int clicks(int visitor) {
        return here.isVisitor(visitor) ? here.clickBits(visitor) : BAD;
    }

    public int wrong(int visitor, int squares) {
        if (!here.isVisitor(visitor) || !here.areSquares(squares)) {
            return BAD;
        }
        return here.timesWrong(visitor, squares);
    }

    public int guests(int squares) {
        if (!here.isRead()) {
            return STATE;
        }
        if (!here.areSquares(squares)) {
            return BAD;
        }
        return here.guestBits(squares);
    }

    public int fewest(int visitors, int what) {
        if (!here.isRead()) {
            return STATE;
        }
        if (!here.areVisitors(visitors) || !isIn(what, 0, 1)) {
            return BAD;
        }
        return sizeOrBits(here.fewestWithin(here.allSquares(), visitors), what);
    }

    public int harsh(int visitors, int squares) {
        if (!here.isRead()) {
            return STATE;
        }
        if (!here.areVisitors(visitors) || !here.areSquares(squares)) {
            return BAD;
        }
        return here.leastStrict(visitors, squares);
    }

    public int keen(int what) {
        if (!here.isRead()) {
            return STATE;
        }
        if (!isIn(what, 0, 1)) {
            return BAD;
        }
        int keenest = here.keenest();
        return what == 0 || keenest == NONE ? keenest : here.difference(keenest);
    }

    public int tells(int squares, int what) {
        if (!here.isRead()) {
            return STATE;
        }
        if (!here.areSquares(squares) || !isIn(what, 0, 1)) {
            return BAD;
        }
        return what == 0 ? here.pairsToldApart(squares) : here.firstPairAlike(squares);
    }

    public int learned(int square) {
        if (!here.isSquare(square)) {
            return BAD;
        }
        return 1 + Integer.compare(here.votesFor[square], here.votesAgainst[square]);
    }

    public int needs(int square) {
        if (!here.isSquare(square)) {
            return BAD;
        }
        if (here.isCounted(square)) {
            return STATE;
        }
        int ahead = here.votesFor[square] - here.votesAgainst[square];
        // As many votes on both sides settle it as none: to make it a lamp takes one more than that.
        return here.votesSayLamp(square) ? ahead : 1 - ahead;
    }

    public int save(int squares, int what) {
        if (!here.isRead()) {
            return STATE;
        }
        if (!here.areSquares(squares) || !isIn(what, 0, 1)) {
            return BAD;
        }
        return sizeOrBits(here.fewestWithin(squares, here.guestBits(squares)), what);
    }

    public int shares(int square, int row, int i) {
        if (!here.isSquare(square) || !isRow(row)) {
            return BAD;
        }
        int refusal = lookAt(row, i, here.visitors);
        if (refusal != 0) {
            return refusal;
        }
        int bits = 0;
        for (int share = 0; share <= MOST_SHARE; share++) {
            if (here.isClickedSo(here.kindOf[square], share, items[row], i)) {
                bits |= 1 << share;
            }
        }
        return bits;
    }

    public int kinds(int square, int row, int i) {
        if (!here.isSquare(square) || !isRow(row)) {
            return BAD;
        }
        int refusal = lookAt(row, i, here.visitors);
        if (refusal != 0) {
            return refusal;
        }
        int bits = 0;
        for (int kind = KNOWN; kind <= HEARD; kind++) {
            if (here.isClickedSo(kind, here.shareOf[square], items[row], i)) {
                bits |= 1 << kind;
            }
        }
        return bits;
    }

    public int who(int row, int i) {
        if (!here.isRead()) {
            return STATE;
        }
        if (!isRow(row)) {
            return BAD;
        }
        int refusal = lookAt(row, i, here.squares);
        if (refusal != 0) {
            return refusal;
        }
        int bits = 0;
        for (int visitor = 0; visitor < here.visitors; visitor++) {
            if (here.wouldClickSo(here.careOf[visitor], here.earOf[visitor], items[row], i)) {
                bits |= 1 << visitor;
            }
        }
        return bits;
    }

    public int cares(int ear, int row, int i) {
        if (!here.isRead()) {
            return STATE;
        }
        if (!isIn(ear, 0, MOST_EAR) || !isRow(row)) {
            return BAD;
        }
        int refusal = lookAt(row, i, here.squares);
        if (refusal != 0) {
            return refusal;
        }
        int bits = 0;
        for (int care = 0; care <= MOST_CARE; care++) {
            if (here.wouldClickSo(care, ear, items[row], i)) {
                bits |= 1 << care;
            }
        }
        return bits;
    }

    public long slip(int visitor, int squares, int p, int what) {
        if (!here.isVisitor(visitor) || !here.areSquares(squares) || !isIn(p, 0, 10) || !isIn(what, 0, 1)) {
            return BAD;
        }
        int asked = squares & here.countedBits();
        spreadCases(asked, here.wrongBits(visitor), p);
        long above = 0;
        for (int times = 0; times <= here.strict && times <= MOST_SQUARES; times++) {
            above += cases[times];
        }
        return partInLowestTerms(above, powerOfTen(Integer.bitCount(asked)), what);
    }

    public int drawn(int n, int seed, int what) {
        if (!here.isRead()) {
            return STATE;
        }
        if (!isIn(n, 0, MOST_DAYS) || !isIn(seed, 1, MOST_SEED) || !isIn(what, 0, 1)) {
            return BAD;
        }
        spare.takeFrom(here);
        int letIn = 0;
        long x = seed;
        for (int day = 0; day < n; day++) {
            x = x * 16807 % 2147483647;
            int visitor = (int) (x % here.visitors);
            int squares = (int) (x % 256) & here.allSquares();
            if (spare.putTo(visitor, squares)) {
                letIn++;
            }
        }
        return what == 0 ? letIn : spare.allVotes();
    }

    public int image(int k) {
        if (!isIn(k, 0, 1)) {
            return BAD;
        }
        if (!here.isRead()) {
            return STATE;
        }
        images[k].takeFrom(here);
        return 1;
    }

    public int restore(int k) {
        if (!isIn(k, 0, 1)) {
            return BAD;
        }
        if (!images[k].isRead()) {
            return STATE;
        }
        here.takeFrom(images[k]);
        acts.forgetAll();
        return 1;
    }

    // ---- asked

    public int kind(int one) {
        return here.isSquare(one) ? here.kindOf[one] : BAD;
    }

    public int as(int one, int kind) {
        if (!here.isSquare(one) || !isIn(kind, ANY, HEARD)) {
            return BAD;
        }
        if (!isOfKind(here.kindOf[one], kind)) {
            return found(KIND);
        }
        finding = 0;
        return one;
    }

    public int ask(int one, int what) {
        if (!here.isSquare(one) || !isIn(what, 0, 1)) {
            return BAD;
        }
        tracedCount = 0;
        if (isOfKind(here.kindOf[one], KNOWN)) {
            return what == 0 ? knownSize(one) : knownMark(one);
        }
        return what == 0 ? unknownSize(one) : unknownMark(one);
    }

    public int trace(int i) {
        return isIn(i, 0, tracedCount - 1) ? traced[i] : NONE;
    }

    public int count(int what) {
        switch (what) {
            case 0:
                return rowsThere();
            case 1:
                return here.squares;
            case 2:
                return here.visitors;
            case 3:
                return here.strict;
            case 4:
                return here.countedBits();
            case 5:
                return here.allVotes();
            case 6:
                return acts.kept;
            case 7:
                return tape.length;
            default:
                return BAD;
        }
    }

    public int status() {
        return finding;
    }

    // ---- what the rows need

    private static boolean isIn(int n, int least, int most) {
        return n >= least && n <= most;
    }

    private static boolean isRow(int row) {
        return isIn(row, 0, MOST_ROWS - 1);
    }

    private boolean isMissing(int row) {
        return lengths[row] == NONE;
    }

    private boolean hasItems(int row, int from, int n) {
        // As a long, since from and n may be the greatest ints there are.
        return from >= 0 && n >= 0 && (long) from + n <= lengths[row];
    }

    private int found(int number) {
        finding = number;
        return FOUND - number;
    }

    /** Whether n items from a place on are there: the finding, told by its answer, or 0. */
    private int lookAt(int row, int from, int n) {
        if (isMissing(row)) {
            return found(NULL);
        }
        if (!hasItems(row, from, n)) {
            return found(PLACE);
        }
        finding = 0;
        return 0;
    }

    private static int lowestBits(int v, int lane) {
        switch (lane) {
            case BYTES:
                return (byte) v;
            case SHORTS:
                return (short) v;
            default:
                return v;
        }
    }

    private int rowsThere() {
        int there = 0;
        for (int row = 0; row < MOST_ROWS; row++) {
            if (!isMissing(row)) {
                there++;
            }
        }
        return there;
    }

    // ---- what is foretold needs

    private static int seenBy(int care, int ear, int kind, int share) {
        switch (kind) {
            case EDGED:
                return share == 0 ? 0 : share - 1;
            case CROOKED:
                return care < CAREFUL ? MOST_SHARE - share : share;
            case HEARD:
                return ear >= HEARING ? share : 0;
            default:
                return share;
        }
    }

    private static boolean isClickedBy(int care, int ear, int kind, int share) {
        return seenBy(care, ear, kind, share) > MOST_CARE - care;
    }

    /** How many squares a found set has (what = 0), or the set itself; NONE stays. */
    private static int sizeOrBits(int set, int what) {
        return what == 0 && set != NONE ? Integer.bitCount(set) : set;
    }

    /** Of all the cases, ten for each square of a set: in how many one is wrong so often. */
    private void spreadCases(int set, int wrongBits, int p) {
        Arrays.fill(cases, 0);
        cases[0] = 1;
        for (int square = 0; square < MOST_SQUARES; square++) {
            if ((set >> square & 1) == 1) {
                int wrongCases = (wrongBits >> square & 1) == 1 ? 10 - p : p;
                for (int times = MOST_SQUARES; times > 0; times--) {
                    cases[times] = cases[times] * (10 - wrongCases) + cases[times - 1] * wrongCases;
                }
                cases[0] *= 10 - wrongCases;
            }
        }
    }

    private static long powerOfTen(int exponent) {
        long power = 1;
        for (int i = 0; i < exponent; i++) {
            power *= 10;
        }
        return power;
    }

    /** Above (what = 0) or below of a fraction whose below is a power of ten, at most 10 to the 8th. */
    private static long partInLowestTerms(long above, long below, int what) {
        long top = above;
        long bottom = below;
        // Only twos and fives can stand in both, eight of each at most.
        for (int i = 0; i < MOST_SQUARES; i++) {
            if (top % 2 == 0 && bottom % 2 == 0) {
                top /= 2;
                bottom /= 2;
            }
            if (top % 5 == 0 && bottom % 5 == 0) {
                top /= 5;
                bottom /= 5;
            }
        }
        return what == 0 ? top : bottom;
    }

    // ---- what is asked needs: one ask of a kind runs through the bodies of the kinds that it is, too

    private static boolean isOfKind(int kind, int wanted) {
        return wanted == ANY || wanted == kind
                || wanted == KNOWN && (kind == EDGED || kind == CROOKED)
                || wanted == UNKNOWN && kind == HEARD;
    }

    private void begin(int body) {
        if (tracedCount < MOST_TRACED) {
            traced[tracedCount] = body;
            tracedCount++;
        }
    }

    private int lentSize(int one) {
        begin(10);
        return here.shareOf[one];
    }

    private int lentMark(int one) {
        begin(20);
        return one;
    }

    private int knownSize(int one) {
        boolean edged = here.kindOf[one] == EDGED;
        if (edged) {
            begin(12);
        }
        begin(11);
        int lent = lentSize(one);
        int size = lent + knownMark(one);
        return edged ? 0 - size : size;
    }

    private int knownMark(int one) {
        int kind = here.kindOf[one];
        if (kind == CROOKED) {
            begin(22);
        }
        if (kind == EDGED) {
            begin(24);
        }
        begin(21);
        int mark = lentMark(one) + here.howManyClick(one);
        if (kind == CROOKED) {
            return mark - 1000;
        }
        return kind == EDGED ? 2 * mark : mark;
    }

    private int unknownSize(int one) {
        boolean heard = here.kindOf[one] == HEARD;
        if (heard) {
            begin(14);
        }
        begin(13);
        int size = lentSize(one) - 100;
        return heard ? 2 * size : size;
    }

    private int unknownMark(int one) {
        begin(23);
        int lent = lentMark(one);
        return lent - unknownSize(one);
    }

    /** The squares, the visitors, and what has been done at one door. One without squares was never read. */
    private static final class Door {
        int edge = 0;
        int strict = 0;
        int squares = 0;
        int visitors = 0;
        final int[] kindOf = new int[MOST_SQUARES];
        final int[] shareOf = new int[MOST_SQUARES];
        final int[] votesFor = new int[MOST_SQUARES];
        final int[] votesAgainst = new int[MOST_SQUARES];
        /** 1 as a lamp, 0 as none, NONE: it is not settled. */
        final int[] settledAs = new int[MOST_SQUARES];
        final int[] careOf = new int[MOST_VISITORS];
        final int[] earOf = new int[MOST_VISITORS];
        final int[] timesAsked = new int[MOST_VISITORS];
        final int[] timesLetIn = new int[MOST_VISITORS];
        /** The wrong squares of each visitor, noted once for a search over many sets. */
        private final int[] noted = new int[MOST_VISITORS];

        void clear() {
            edge = 0;
            strict = 0;
            squares = 0;
            visitors = 0;
            Arrays.fill(votesFor, 0);
            Arrays.fill(votesAgainst, 0);
            Arrays.fill(settledAs, NONE);
            Arrays.fill(timesAsked, 0);
            Arrays.fill(timesLetIn, 0);
        }

        void takeFrom(Door other) {
            edge = other.edge;
            strict = other.strict;
            squares = other.squares;
            visitors = other.visitors;
            System.arraycopy(other.kindOf, 0, kindOf, 0, MOST_SQUARES);
            System.arraycopy(other.shareOf, 0, shareOf, 0, MOST_SQUARES);
            System.arraycopy(other.votesFor, 0, votesFor, 0, MOST_SQUARES);
            System.arraycopy(other.votesAgainst, 0, votesAgainst, 0, MOST_SQUARES);
            System.arraycopy(other.settledAs, 0, settledAs, 0, MOST_SQUARES);
            System.arraycopy(other.careOf, 0, careOf, 0, MOST_VISITORS);
            System.arraycopy(other.earOf, 0, earOf, 0, MOST_VISITORS);
            System.arraycopy(other.timesAsked, 0, timesAsked, 0, MOST_VISITORS);
            System.arraycopy(other.timesLetIn, 0, timesLetIn, 0, MOST_VISITORS);
        }

        void addSquare(int kind, int share) {
            if (squares < MOST_SQUARES) {
                kindOf[squares] = kind;
                shareOf[squares] = share;
                squares++;
            }
        }

        void addVisitor(int care, int ear) {
            if (visitors < MOST_VISITORS) {
                careOf[visitors] = care;
                earOf[visitors] = ear;
                visitors++;
            }
        }

        boolean isRead() {
            return squares > 0 && visitors > 0;
        }

        boolean isSquare(int one) {
            return isIn(one, 0, squares - 1);
        }

        boolean isVisitor(int one) {
            return isIn(one, 0, visitors - 1);
        }

        int allSquares() {
            return (1 << squares) - 1;
        }

        boolean areSquares(int bits) {
            return isIn(bits, 0, allSquares());
        }

        boolean areVisitors(int bits) {
            return isIn(bits, 0, (1 << visitors) - 1);
        }

        boolean isCounted(int square) {
            return isOfKind(kindOf[square], KNOWN) || settledAs[square] != NONE;
        }

        int countedBits() {
            int bits = 0;
            for (int square = 0; square < squares; square++) {
                if (isCounted(square)) {
                    bits |= 1 << square;
                }
            }
            return bits;
        }

        /** The squares that a visitor has to click to be right: a settled one is as it was settled. */
        private int lampBits() {
            int bits = 0;
            for (int square = 0; square < squares; square++) {
                boolean settled = settledAs[square] != NONE;
                if (settled ? settledAs[square] == 1 : shareOf[square] >= edge) {
                    bits |= 1 << square;
                }
            }
            return bits;
        }

        int clickBits(int visitor) {
            int bits = 0;
            for (int square = 0; square < squares; square++) {
                if (isClickedBy(careOf[visitor], earOf[visitor], kindOf[square], shareOf[square])) {
                    bits |= 1 << square;
                }
            }
            return bits;
        }

        int wrongBits(int visitor) {
            return (clickBits(visitor) ^ lampBits()) & countedBits();
        }

        int timesWrong(int visitor, int set) {
            return Integer.bitCount(wrongBits(visitor) & set);
        }

        int howManyClick(int square) {
            int many = 0;
            for (int visitor = 0; visitor < visitors; visitor++) {
                many += clickBits(visitor) >> square & 1;
            }
            return many;
        }

        /** A visitor is asked a set of squares: whether he is let in. */
        boolean putTo(int visitor, int set) {
            timesAsked[visitor]++;
            if (timesWrong(visitor, set) > strict) {
                return false;
            }
            timesLetIn[visitor]++;
            vote(set & ~countedBits(), clickBits(visitor));
            return true;
        }

        private void vote(int set, int clicked) {
            for (int square = 0; square < squares; square++) {
                if ((set >> square & 1) == 1) {
                    int[] votes = (clicked >> square & 1) == 1 ? votesFor : votesAgainst;
                    votes[square] = Math.min(votes[square] + 1, MOST_VOTES);
                }
            }
        }

        boolean votesSayLamp(int square) {
            return votesFor[square] > votesAgainst[square];
        }

        int allVotes() {
            int sum = 0;
            for (int square = 0; square < squares; square++) {
                sum += votesFor[square] + votesAgainst[square];
            }
            return sum;
        }

        private void noteWrong() {
            for (int visitor = 0; visitor < visitors; visitor++) {
                noted[visitor] = wrongBits(visitor);
            }
        }

        private int notedGuests(int set) {
            int bits = 0;
            for (int visitor = 0; visitor < visitors; visitor++) {
                if (Integer.bitCount(noted[visitor] & set) <= strict) {
                    bits |= 1 << visitor;
                }
            }
            return bits;
        }

        int guestBits(int set) {
            noteWrong();
            return notedGuests(set);
        }

        /** The smallest part of a set, of several the least, that lets in just the wanted visitors; or NONE. */
        int fewestWithin(int set, int wanted) {
            noteWrong();
            int best = NONE;
            int bestSize = MOST_SQUARES + 1;
            for (int part = 0; part <= set; part++) {
                boolean isPart = (part & ~set) == 0;
                if (isPart && Integer.bitCount(part) < bestSize && notedGuests(part) == wanted) {
                    best = part;
                    bestSize = Integer.bitCount(part);
                }
            }
            return best;
        }

        int leastStrict(int wanted, int set) {
            int least = 0;
            for (int visitor = 0; visitor < visitors; visitor++) {
                if ((wanted >> visitor & 1) == 1) {
                    least = Math.max(least, timesWrong(visitor, set));
                }
            }
            return least;
        }

        /** By how much, at a square, those who are wrong and those who are not differ in number. */
        int difference(int square) {
            int wrongOnes = 0;
            for (int visitor = 0; visitor < visitors; visitor++) {
                wrongOnes += wrongBits(visitor) >> square & 1;
            }
            return Math.abs(wrongOnes - (visitors - wrongOnes));
        }

        int keenest() {
            int best = NONE;
            int least = MOST_VISITORS + 1;
            for (int square = 0; square < squares; square++) {
                if (isCounted(square) && difference(square) < least) {
                    best = square;
                    least = difference(square);
                }
            }
            return best;
        }

        private boolean clickAlike(int one, int other, int set) {
            return ((clickBits(one) ^ clickBits(other)) & set) == 0;
        }

        int pairsToldApart(int set) {
            int pairs = 0;
            for (int lesser = 0; lesser < visitors; lesser++) {
                for (int greater = lesser + 1; greater < visitors; greater++) {
                    if (!clickAlike(lesser, greater, set)) {
                        pairs++;
                    }
                }
            }
            return pairs;
        }

        int firstPairAlike(int set) {
            for (int lesser = 0; lesser < visitors; lesser++) {
                for (int greater = lesser + 1; greater < visitors; greater++) {
                    if (clickAlike(lesser, greater, set)) {
                        return 10 * lesser + greater;
                    }
                }
            }
            return NONE;
        }

        /** Whether the visitors would click a square of a kind and a share as the items tell. */
        boolean isClickedSo(int kind, int share, int[] told, int from) {
            for (int visitor = 0; visitor < visitors; visitor++) {
                boolean clicked = isClickedBy(careOf[visitor], earOf[visitor], kind, share);
                if (told[from + visitor] != (clicked ? 1 : 0)) {
                    return false;
                }
            }
            return true;
        }

        /** Whether one of a care and an ear would click the squares as the items tell. */
        boolean wouldClickSo(int care, int ear, int[] told, int from) {
            for (int square = 0; square < squares; square++) {
                boolean clicked = isClickedBy(care, ear, kindOf[square], shareOf[square]);
                if (told[from + square] != (clicked ? 1 : 0)) {
                    return false;
                }
            }
            return true;
        }
    }

    /** The latest acts, each kept as the door was ahead of it, in a ring. */
    private static final class Acts {
        private final Door[] ahead = new Door[MOST_ACTS];
        private int next = 0;
        int kept = 0;

        Acts() {
            for (int i = 0; i < MOST_ACTS; i++) {
                ahead[i] = new Door();
            }
        }

        void keep(Door door) {
            ahead[next].takeFrom(door);
            next = (next + 1) % MOST_ACTS;
            kept = Math.min(kept + 1, MOST_ACTS);
        }

        void takeBackInto(Door door) {
            next = (next + MOST_ACTS - 1) % MOST_ACTS;
            door.takeFrom(ahead[next]);
            kept--;
        }

        void forgetAll() {
            kept = 0;
        }
    }

    /** The bytes that were fed, and the reading of them: it stands at a token until that is found right. */
    private static final class Tape {
        private final int[] bytes = new int[MOST_BYTES];
        int length = 0;
        int at = 0;
        private int fault = 0;

        boolean add(int letter) {
            if (length >= MOST_BYTES) {
                return false;
            }
            bytes[length] = letter;
            length++;
            return true;
        }

        /** The number of the fault, at whose place the reading stands then, or 0. */
        int readInto(Door door) {
            at = 0;
            fault = 0;
            readLaw(door);
            readSquare(door);
            for (int more = 0; more < MOST_SQUARES && fault == 0 && kindHere() != 0; more++) {
                readSquare(door);
            }
            readVisitor(door);
            for (int more = 0; more < MOST_VISITORS && fault == 0 && at < length; more++) {
                readVisitor(door);
            }
            return fault;
        }

        private void readLaw(Door door) {
            readSign('d');
            door.edge = readNumber(LEAST_EDGE, MOST_EDGE);
            readSign(',');
            door.strict = readNumber(0, MOST_STRICT);
            readSign(';');
        }

        private void readSquare(Door door) {
            int kind = kindHere();
            readToken(kind != 0, door.squares < MOST_SQUARES);
            int share = readNumber(0, MOST_SHARE);
            readSign(';');
            if (fault == 0) {
                door.addSquare(kind, share);
            }
        }

        private void readVisitor(Door door) {
            readToken(byteAt(at) == 'v', door.visitors < MOST_VISITORS);
            int care = readNumber(0, MOST_CARE);
            readSign(',');
            int ear = readNumber(0, MOST_EAR);
            readSign(';');
            if (fault == 0) {
                door.addVisitor(care, ear);
            }
        }

        /** Only the first fault is told: after it the reading stands still. */
        private void fail(int number) {
            if (fault == 0) {
                fault = number;
            }
        }

        /** The byte at a place; NONE, which no byte is, beyond the end. */
        private int byteAt(int place) {
            return isIn(place, 0, length - 1) ? bytes[place] : NONE;
        }

        /** The kind that the letter here tells, or 0. */
        private int kindHere() {
            int letter = byteAt(at);
            return letter == NONE ? 0 : SORTS.indexOf((char) letter) + 1;
        }

        private void readToken(boolean mayStandHere, boolean hasRoom) {
            if (!mayStandHere) {
                fail(OUT_OF_PLACE);
            } else if (!hasRoom) {
                fail(NO_ROOM);
            } else if (fault == 0) {
                at++;
            }
        }

        private void readSign(int wanted) {
            readToken(byteAt(at) == wanted, true);
        }

        private int figuresHere() {
            int figures = 0;
            for (int place = at; place < length && isIn(byteAt(place), '0', '9'); place++) {
                figures++;
            }
            return figures;
        }

        private int readNumber(int least, int most) {
            int figures = figuresHere();
            if (figures == 0 || figures > MOST_FIGURES) {
                fail(OUT_OF_PLACE);
            }
            int number = 0;
            for (int i = 0; i < figures && i < MOST_FIGURES; i++) {
                number = number * 10 + byteAt(at + i) - '0';
            }
            if (!isIn(number, least, most)) {
                fail(WRONG_NUMBER);
            }
            if (fault == 0) {
                at += figures;
            }
            return number;
        }
    }
}
