import java.math.BigInteger;
import java.util.ArrayList;
import java.util.List;

/** The document told once more, in another and slower way: with lists, copies, and trying all out. */
final class PlainModel {
    static final int NONE = -1000000, BAD = -1000001, STATE = -1000002, FULL = -1000003;

    static final class Square {
        char sort;
        int share, votesFor, votesAgainst;
        Boolean settled;

        Square copied() {
            Square s = new Square();
            s.sort = sort;
            s.share = share;
            s.votesFor = votesFor;
            s.votesAgainst = votesAgainst;
            s.settled = settled;
            return s;
        }

        boolean counts() {
            return "kec".indexOf(sort) >= 0 || settled != null;
        }
    }

    static final class Visitor {
        int care, ear, asked, letIn;

        Visitor copied() {
            Visitor v = new Visitor();
            v.care = care;
            v.ear = ear;
            v.asked = asked;
            v.letIn = letIn;
            return v;
        }

        int sees(char sort, int share) {
            if (sort == 'e') {
                return share == 0 ? 0 : share - 1;
            }
            if (sort == 'c' && care <= 4) {
                return 9 - share;
            }
            if (sort == 'h' && ear <= 4) {
                return 0;
            }
            return share;
        }

        boolean clicks(char sort, int share) {
            return sees(sort, share) + care > 9;
        }

        boolean clicks(Square s) {
            return clicks(s.sort, s.share);
        }
    }

    static final class Place {
        int edge, strict;
        final List<Square> squares = new ArrayList<>();
        final List<Visitor> visitors = new ArrayList<>();

        Place copied() {
            Place p = new Place();
            p.edge = edge;
            p.strict = strict;
            for (Square s : squares) {
                p.squares.add(s.copied());
            }
            for (Visitor v : visitors) {
                p.visitors.add(v.copied());
            }
            return p;
        }

        boolean isWrong(Visitor v, Square s) {
            if (!s.counts()) {
                return false;
            }
            boolean lamp = s.settled != null ? s.settled : s.share >= edge;
            return lamp != v.clicks(s);
        }

        int timesWrong(Visitor v, int set) {
            int times = 0;
            for (int i = 0; i < squares.size(); i++) {
                if (has(set, i) && isWrong(v, squares.get(i))) {
                    times++;
                }
            }
            return times;
        }

        int guests(int set) {
            int bits = 0;
            for (int i = 0; i < visitors.size(); i++) {
                bits += timesWrong(visitors.get(i), set) <= strict ? power(2, i) : 0;
            }
            return bits;
        }

        boolean ask(int visitor, int set) {
            Visitor v = visitors.get(visitor);
            v.asked++;
            if (timesWrong(v, set) > strict) {
                return false;
            }
            v.letIn++;
            for (int i = 0; i < squares.size(); i++) {
                Square s = squares.get(i);
                if (has(set, i) && !s.counts()) {
                    if (v.clicks(s)) {
                        s.votesFor = Math.min(99, s.votesFor + 1);
                    } else {
                        s.votesAgainst = Math.min(99, s.votesAgainst + 1);
                    }
                }
            }
            return true;
        }

        int votes() {
            int sum = 0;
            for (Square s : squares) {
                sum += s.votesFor + s.votesAgainst;
            }
            return sum;
        }
    }

    private final int[][] rows = new int[8][];
    private final int[] lanes = new int[8];
    private String tape = "";
    private int fault = 0;
    private Place place = null;
    private final List<Place> acts = new ArrayList<>();
    private final Place[] images = new Place[2];
    private List<Integer> trace = new ArrayList<>();
    private int status = 0;

    private static boolean has(int set, int i) {
        return set / power(2, i) % 2 == 1;
    }

    private static int power(int base, int exponent) {
        return exponent == 0 ? 1 : base * power(base, exponent - 1);
    }

    private static boolean within(int n, int least, int most) {
        return least <= n && n <= most;
    }

    private int squareCount() {
        return place == null ? 0 : place.squares.size();
    }

    private int visitorCount() {
        return place == null ? 0 : place.visitors.size();
    }

    private boolean noSquare(int s) {
        return !within(s, 0, squareCount() - 1);
    }

    private boolean noVisitor(int v) {
        return !within(v, 0, visitorCount() - 1);
    }

    private boolean noSquares(int set) {
        return !within(set, 0, power(2, squareCount()) - 1);
    }

    private boolean noVisitors(int set) {
        return !within(set, 0, power(2, visitorCount()) - 1);
    }

    private int finding(int number) {
        status = number;
        return -1000010 - number;
    }

    int row(int row, int lane, int n) {
        if (!within(row, 0, 7) || !within(lane, 0, 2) || n > 40) {
            return BAD;
        }
        if (n < 0) {
            return finding(4);
        }
        status = 0;
        rows[row] = new int[n];
        lanes[row] = lane;
        return n;
    }

    int set(int row, int i, int v) {
        if (!within(row, 0, 7)) {
            return BAD;
        }
        if (rows[row] == null) {
            return finding(1);
        }
        if (!within(i, 0, rows[row].length - 1)) {
            return finding(2);
        }
        status = 0;
        int bits = lanes[row] == 0 ? 24 : lanes[row] == 1 ? 16 : 0;
        rows[row][i] = v << bits >> bits;
        return rows[row][i];
    }

    int copy(int a, int i, int b, int j, int n) {
        if (!within(a, 0, 7) || !within(b, 0, 7)) {
            return BAD;
        }
        if (rows[a] == null || rows[b] == null) {
            return finding(1);
        }
        if (lanes[a] != lanes[b]) {
            return finding(5);
        }
        if (i < 0 || j < 0 || n < 0 || i > rows[a].length - n || j > rows[b].length - n) {
            return finding(2);
        }
        status = 0;
        int[] was = rows[a].clone();
        for (int k = 0; k < n; k++) {
            rows[b][j + k] = was[i + k];
        }
        return n;
    }

    int drop(int row) {
        if (!within(row, 0, 7)) {
            return BAD;
        }
        if (rows[row] == null) {
            return finding(1);
        }
        status = 0;
        int had = rows[row].length;
        rows[row] = null;
        return had;
    }

    int feed(int letter) {
        if (!within(letter, 0, 255)) {
            return BAD;
        }
        if (tape.length() == 120) {
            return FULL;
        }
        tape += (char) letter;
        return tape.length();
    }

    /** The tokens, each with its place; a last one, that is empty, for the end. */
    private static List<String> tokens(String text, List<Integer> places) {
        List<String> all = new ArrayList<>();
        int at = 0;
        while (at < text.length()) {
            int end = at + 1;
            if (Character.toString(text.charAt(at)).matches("[0-9]")) {
                while (end < text.length() && Character.toString(text.charAt(end)).matches("[0-9]")) {
                    end++;
                }
            }
            all.add(text.substring(at, end));
            places.add(at);
            at = end;
        }
        all.add("");
        places.add(text.length());
        return all;
    }

    /** What may stand at a token, by the shape of all ahead of it; a machine with a state for each step. */
    int door() {
        List<Integer> places = new ArrayList<>();
        List<String> tokens = tokens(tape, places);
        tape = "";
        Place read = new Place();
        String step = "d";
        for (int i = 0; i < tokens.size(); i++) {
            String token = tokens.get(i);
            int number = token.matches("[0-9]{1,2}") ? Integer.parseInt(token) : -1;
            int flaw = 0;
            String next = "";
            switch (step) {
                case "d":
                    flaw = token.equals("d") ? 0 : 1;
                    next = "edge";
                    break;
                case "edge":
                    flaw = number < 0 ? 1 : within(number, 1, 9) ? 0 : 2;
                    read.edge = number;
                    next = "edge,";
                    break;
                case "edge,":
                    flaw = token.equals(",") ? 0 : 1;
                    next = "strict";
                    break;
                case "strict":
                    flaw = number < 0 ? 1 : within(number, 0, 8) ? 0 : 2;
                    read.strict = number;
                    next = "strict;";
                    break;
                case "strict;":
                case "share;":
                case "ear;":
                    flaw = token.equals(";") ? 0 : 1;
                    next = step.equals("strict;") ? "first" : step.equals("share;") ? "square" : "visitor";
                    break;
                case "first":
                case "square":
                case "visitor":
                    boolean sort = token.matches("[kecuh]") && !step.equals("visitor");
                    boolean visitor = token.equals("v") && !step.equals("first");
                    if (step.equals("visitor") && token.isEmpty()) {
                        return stand(read);
                    }
                    if (sort) {
                        flaw = read.squares.size() == 8 ? 3 : 0;
                        Square s = new Square();
                        s.sort = token.charAt(0);
                        read.squares.add(s);
                        next = "share";
                    } else if (visitor) {
                        flaw = read.visitors.size() == 5 ? 3 : 0;
                        read.visitors.add(new Visitor());
                        next = "care";
                    } else {
                        flaw = 1;
                    }
                    break;
                case "care,":
                    flaw = token.equals(",") ? 0 : 1;
                    next = "ear";
                    break;
                default:
                    flaw = number < 0 ? 1 : within(number, 0, 9) ? 0 : 2;
                    if (step.equals("share")) {
                        read.squares.get(read.squares.size() - 1).share = number;
                        next = "share;";
                    } else if (step.equals("care")) {
                        read.visitors.get(read.visitors.size() - 1).care = number;
                        next = "care,";
                    } else {
                        read.visitors.get(read.visitors.size() - 1).ear = number;
                        next = "ear;";
                    }
            }
            if (flaw != 0) {
                fault = flaw;
                return -1000100 - places.get(i);
            }
            step = next;
        }
        throw new IllegalStateException("the end was passed");
    }

    private int stand(Place read) {
        place = read;
        acts.clear();
        return read.squares.size();
    }

    int fault() {
        return fault;
    }

    private void act() {
        acts.add(place.copied());
        if (acts.size() > 24) {
            acts.remove(0);
        }
    }

    int undo() {
        if (acts.isEmpty()) {
            return STATE;
        }
        place = acts.remove(acts.size() - 1);
        return acts.size();
    }

    int pose(int visitor, int squares) {
        if (noVisitor(visitor) || noSquares(squares)) {
            return BAD;
        }
        act();
        return place.ask(visitor, squares) ? 1 : 0;
    }

    int strict(int n) {
        if (place == null) {
            return STATE;
        }
        if (!within(n, 0, 8)) {
            return BAD;
        }
        act();
        int was = place.strict;
        place.strict = n;
        return was;
    }

    int share(int square, int n) {
        if (noSquare(square) || !within(n, 0, 9)) {
            return BAD;
        }
        act();
        Square s = place.squares.get(square);
        int was = s.share;
        s.share = n;
        return was;
    }

    int settle(int square) {
        if (noSquare(square)) {
            return BAD;
        }
        if (place.squares.get(square).counts()) {
            return STATE;
        }
        act();
        Square s = place.squares.get(square);
        s.settled = s.votesFor > s.votesAgainst;
        return s.settled ? 1 : 0;
    }

    int square(int square, int what) {
        if (noSquare(square) || !within(what, 0, 5)) {
            return BAD;
        }
        Square s = place.squares.get(square);
        int settled = s.settled == null ? NONE : s.settled ? 1 : 0;
        int[] answers = {s.share, s.share >= place.edge ? 1 : 0, s.counts() ? 1 : 0, s.votesFor, s.votesAgainst, settled};
        return answers[what];
    }

    int visitor(int visitor, int what) {
        if (noVisitor(visitor) || !within(what, 0, 3)) {
            return BAD;
        }
        Visitor v = place.visitors.get(visitor);
        return new int[] {v.care, v.ear, v.asked, v.letIn}[what];
    }

    int sees(int visitor, int square) {
        if (noVisitor(visitor) || noSquare(square)) {
            return BAD;
        }
        Square s = place.squares.get(square);
        return place.visitors.get(visitor).sees(s.sort, s.share);
    }

    int clicks(int visitor) {
        if (noVisitor(visitor)) {
            return BAD;
        }
        int bits = 0;
        for (int i = 0; i < squareCount(); i++) {
            bits += place.visitors.get(visitor).clicks(place.squares.get(i)) ? power(2, i) : 0;
        }
        return bits;
    }

    int wrong(int visitor, int squares) {
        if (noVisitor(visitor) || noSquares(squares)) {
            return BAD;
        }
        return place.timesWrong(place.visitors.get(visitor), squares);
    }

    int guests(int squares) {
        if (place == null) {
            return STATE;
        }
        return noSquares(squares) ? BAD : place.guests(squares);
    }

    private static int size(int set) {
        return set == 0 ? 0 : set % 2 + size(set / 2);
    }

    /** By sizes from 0 on, and in each by numbers: the first that fits. */
    private int fewestOf(int whole, int wanted, int what) {
        for (int size = 0; size <= 8; size++) {
            for (int set = 0; set < 256; set++) {
                boolean part = size(set) == size;
                for (int i = 0; i < 8; i++) {
                    part &= !has(set, i) || has(whole, i);
                }
                if (part && place.guests(set) == wanted) {
                    return what == 0 ? size : set;
                }
            }
        }
        return NONE;
    }

    int fewest(int visitors, int what) {
        if (place == null) {
            return STATE;
        }
        if (noVisitors(visitors) || !within(what, 0, 1)) {
            return BAD;
        }
        return fewestOf(power(2, squareCount()) - 1, visitors, what);
    }

    int harsh(int visitors, int squares) {
        if (place == null) {
            return STATE;
        }
        if (noVisitors(visitors) || noSquares(squares)) {
            return BAD;
        }
        Place other = place.copied();
        for (other.strict = 0; ; other.strict++) {
            int in = other.guests(squares);
            boolean all = true;
            for (int i = 0; i < visitorCount(); i++) {
                all &= !has(visitors, i) || has(in, i);
            }
            if (all) {
                return other.strict;
            }
        }
    }

    int keen(int what) {
        if (place == null) {
            return STATE;
        }
        if (!within(what, 0, 1)) {
            return BAD;
        }
        for (int by = 0; by <= 5; by++) {
            for (int i = 0; i < squareCount(); i++) {
                int balance = 0;
                for (Visitor v : place.visitors) {
                    balance += place.isWrong(v, place.squares.get(i)) ? 1 : -1;
                }
                if (place.squares.get(i).counts() && (balance == by || balance == -by)) {
                    return what == 0 ? i : by;
                }
            }
        }
        return NONE;
    }

    int tells(int squares, int what) {
        if (place == null) {
            return STATE;
        }
        if (noSquares(squares) || !within(what, 0, 1)) {
            return BAD;
        }
        int apart = 0;
        int first = NONE;
        for (int pair = 0; pair < 50; pair++) {
            int a = pair / 10;
            int b = pair % 10;
            if (a < b && b < visitorCount()) {
                boolean alike = true;
                for (int i = 0; i < squareCount(); i++) {
                    Square s = place.squares.get(i);
                    alike &= !has(squares, i) || place.visitors.get(a).clicks(s) == place.visitors.get(b).clicks(s);
                }
                apart += alike ? 0 : 1;
                first = alike && first == NONE ? pair : first;
            }
        }
        return what == 0 ? apart : first;
    }

    int learned(int square) {
        if (noSquare(square)) {
            return BAD;
        }
        Square s = place.squares.get(square);
        return s.votesFor > s.votesAgainst ? 2 : s.votesFor == s.votesAgainst ? 1 : 0;
    }

    int needs(int square) {
        if (noSquare(square)) {
            return BAD;
        }
        Square s = place.squares.get(square);
        if (s.counts()) {
            return STATE;
        }
        boolean lamp = s.votesFor > s.votesAgainst;
        for (int more = 1; ; more++) {
            boolean then = lamp ? s.votesFor > s.votesAgainst + more : s.votesFor + more > s.votesAgainst;
            if (then != lamp) {
                return more;
            }
        }
    }

    int save(int squares, int what) {
        if (place == null) {
            return STATE;
        }
        if (noSquares(squares) || !within(what, 0, 1)) {
            return BAD;
        }
        return fewestOf(squares, place.guests(squares), what);
    }

    private int look(int row, int i, int n) {
        if (rows[row] == null) {
            return finding(1);
        }
        if (i < 0 || i > rows[row].length - n) {
            return finding(2);
        }
        status = 0;
        return 0;
    }

    private static boolean tells(int item, boolean click) {
        return click ? item == 1 : item == 0;
    }

    private boolean visitorsClick(int row, int from, char sort, int share) {
        boolean so = true;
        for (int v = 0; v < visitorCount(); v++) {
            so &= tells(rows[row][from + v], place.visitors.get(v).clicks(sort, share));
        }
        return so;
    }

    private boolean clicksAll(int row, int from, Visitor v) {
        boolean so = true;
        for (int s = 0; s < squareCount(); s++) {
            so &= tells(rows[row][from + s], v.clicks(place.squares.get(s)));
        }
        return so;
    }

    int shares(int square, int row, int i) {
        if (noSquare(square) || !within(row, 0, 7)) {
            return BAD;
        }
        int refused = look(row, i, visitorCount());
        int bits = 0;
        for (int n = 0; n <= 9 && refused == 0; n++) {
            bits += visitorsClick(row, i, place.squares.get(square).sort, n) ? power(2, n) : 0;
        }
        return refused == 0 ? bits : refused;
    }

    int kinds(int square, int row, int i) {
        if (noSquare(square) || !within(row, 0, 7)) {
            return BAD;
        }
        int refused = look(row, i, visitorCount());
        int bits = 0;
        for (int n = 1; n <= 5 && refused == 0; n++) {
            bits += visitorsClick(row, i, " kecuh".charAt(n), place.squares.get(square).share) ? power(2, n) : 0;
        }
        return refused == 0 ? bits : refused;
    }

    int who(int row, int i) {
        if (place == null) {
            return STATE;
        }
        if (!within(row, 0, 7)) {
            return BAD;
        }
        int refused = look(row, i, squareCount());
        int bits = 0;
        for (int v = 0; v < visitorCount() && refused == 0; v++) {
            bits += clicksAll(row, i, place.visitors.get(v)) ? power(2, v) : 0;
        }
        return refused == 0 ? bits : refused;
    }

    int cares(int ear, int row, int i) {
        if (place == null) {
            return STATE;
        }
        if (!within(ear, 0, 9) || !within(row, 0, 7)) {
            return BAD;
        }
        int refused = look(row, i, squareCount());
        int bits = 0;
        for (int care = 0; care <= 9 && refused == 0; care++) {
            Visitor v = new Visitor();
            v.care = care;
            v.ear = ear;
            bits += clicksAll(row, i, v) ? power(2, care) : 0;
        }
        return refused == 0 ? bits : refused;
    }

    /** All ways in which clicks slip or do not, one by one. */
    long slip(int visitor, int squares, int p, int what) {
        if (noVisitor(visitor) || noSquares(squares) || !within(p, 0, 10) || !within(what, 0, 1)) {
            return BAD;
        }
        List<Boolean> wrongs = new ArrayList<>();
        for (int i = 0; i < squareCount(); i++) {
            if (has(squares, i) && place.squares.get(i).counts()) {
                wrongs.add(place.isWrong(place.visitors.get(visitor), place.squares.get(i)));
            }
        }
        BigInteger above = BigInteger.ZERO;
        for (int way = 0; way < power(2, wrongs.size()); way++) {
            BigInteger weight = BigInteger.ONE;
            int times = 0;
            for (int i = 0; i < wrongs.size(); i++) {
                weight = weight.multiply(BigInteger.valueOf(has(way, i) ? p : 10 - p));
                times += wrongs.get(i) != has(way, i) ? 1 : 0;
            }
            above = times <= place.strict ? above.add(weight) : above;
        }
        BigInteger below = BigInteger.TEN.pow(wrongs.size());
        BigInteger common = above.gcd(below);
        return (what == 0 ? above : below).divide(common).longValueExact();
    }

    int drawn(int n, int seed, int what) {
        if (place == null) {
            return STATE;
        }
        if (!within(n, 0, 60) || !within(seed, 1, 999999) || !within(what, 0, 1)) {
            return BAD;
        }
        Place other = place.copied();
        BigInteger x = BigInteger.valueOf(seed);
        int in = 0;
        for (int day = 0; day < n; day++) {
            x = x.multiply(BigInteger.valueOf(16807)).mod(BigInteger.valueOf(2147483647));
            int visitor = x.mod(BigInteger.valueOf(visitorCount())).intValue();
            int set = x.mod(BigInteger.valueOf(256)).intValue() % power(2, squareCount());
            in += other.ask(visitor, set) ? 1 : 0;
        }
        return what == 0 ? in : other.votes();
    }

    int image(int k) {
        if (!within(k, 0, 1)) {
            return BAD;
        }
        if (place == null) {
            return STATE;
        }
        images[k] = place.copied();
        return 1;
    }

    int restore(int k) {
        if (!within(k, 0, 1)) {
            return BAD;
        }
        if (images[k] == null) {
            return STATE;
        }
        place = images[k].copied();
        acts.clear();
        return 1;
    }

    int kind(int one) {
        return noSquare(one) ? BAD : " kecuh".indexOf(place.squares.get(one).sort);
    }

    int as(int one, int kind) {
        if (noSquare(one) || !within(kind, 0, 5)) {
            return BAD;
        }
        String is = new String[] {"", "01", "012", "013", "04", "045"}[kind(one)];
        if (is.indexOf('0' + kind) < 0) {
            return finding(3);
        }
        status = 0;
        return one;
    }

    int ask(int one, int what) {
        if (noSquare(one) || !within(what, 0, 1)) {
            return BAD;
        }
        trace = new ArrayList<>();
        return what == 0 ? size(kind(one), one) : mark(kind(one), one);
    }

    /** The bodies, each called by the number of the one that is nearest to a kind. */
    private int size(int kind, int one) {
        return body(new int[] {10, 11, 12, 11, 13, 14}[kind], one);
    }

    private int mark(int kind, int one) {
        return body(new int[] {20, 21, 24, 22, 23, 23}[kind], one);
    }

    private int body(int number, int one) {
        if (trace.size() < 16) {
            trace.add(number);
        }
        switch (number) {
            case 10:
                return place.squares.get(one).share;
            case 11:
                return body(10, one) + mark(kind(one), one);
            case 12:
                return -body(11, one);
            case 13:
                return body(10, one) - 100;
            case 14:
                return 2 * body(13, one);
            case 20:
                return one;
            case 21:
                int clicks = 0;
                int lent = body(20, one);
                for (Visitor v : place.visitors) {
                    clicks += v.clicks(place.squares.get(one)) ? 1 : 0;
                }
                return lent + clicks;
            case 22:
                return body(21, one) - 1000;
            case 23:
                return body(20, one) - size(kind(one), one);
            default:
                return 2 * body(21, one);
        }
    }

    int trace(int i) {
        return within(i, 0, trace.size() - 1) ? trace.get(i) : NONE;
    }

    int count(int what) {
        if (!within(what, 0, 7)) {
            return BAD;
        }
        int there = 0;
        for (int[] row : rows) {
            there += row == null ? 0 : 1;
        }
        int counted = 0;
        for (int i = 0; i < squareCount(); i++) {
            counted += place.squares.get(i).counts() ? power(2, i) : 0;
        }
        int strict = place == null ? 0 : place.strict;
        int votes = place == null ? 0 : place.votes();
        return new int[] {there, squareCount(), visitorCount(), strict, counted, votes, acts.size(), tape.length()}[what];
    }

    int status() {
        return status;
    }
}
