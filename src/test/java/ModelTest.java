import java.util.Random;

/** Long runs of drawn calls, each answered by the program and by PlainModel; with a seed, so always the same. */
public final class ModelTest {
    private static final Due due = new Due("ModelTest");
    private static final int RUNS = 600, CALLS = 512;
    private static final int[] FAR = {Integer.MIN_VALUE, -1000000, -2, -1, 41, 256, 1000000, Integer.MAX_VALUE};

    private final Random random;
    private final LampSquares x = new LampSquares();
    private final PlainModel m = new PlainModel();
    private final String run;
    private int calls = 0;

    private ModelTest(int seed) {
        random = new Random(seed);
        run = "run " + seed;
    }

    public static void main(String[] args) {
        for (int seed = 0; seed < RUNS; seed++) {
            new ModelTest(seed).play();
        }
        due.end();
    }

    private void play() {
        if (random.nextInt(8) != 0) {
            tellDoor();
        }
        while (calls < CALLS) {
            int choice = random.nextInt(100);
            if (choice == 0) {
                tellDoor();
            } else if (choice < 8) {
                tellRow();
            } else if (choice < 20) {
                act();
            } else {
                call(random.nextInt(40));
            }
        }
    }

    /** A number below an end; rarely one that is beyond, or far away. */
    private int n(int end) {
        if (random.nextInt(30) == 0) {
            return FAR[random.nextInt(FAR.length)];
        }
        return random.nextInt(25) == 0 ? end : random.nextInt(Math.max(end, 1));
    }

    private int square() {
        return n(m.count(1));
    }

    private int visitor() {
        return n(m.count(2));
    }

    private int squares() {
        return random.nextInt(4) == 0 ? (1 << m.count(1)) - 1 : n(1 << m.count(1));
    }

    private int visitors() {
        if (random.nextInt(2) == 0) {
            return n(1 << m.count(2));
        }
        return m.guests(random.nextInt(1 << m.count(1)));
    }

    private void same(String call, long got, long want) {
        calls++;
        // What comes after the last promised call is free.
        if (calls <= CALLS) {
            due.is(run + ", call " + calls + ": " + call, got, want);
        }
    }

    private void tellDoor() {
        StringBuilder text = new StringBuilder("d" + (1 + random.nextInt(9)) + "," + random.nextInt(4) + ";");
        for (int i = 1 + random.nextInt(8); i > 0; i--) {
            text.append("kecuh".charAt(random.nextInt(5))).append(random.nextInt(10)).append(';');
        }
        for (int i = 1 + random.nextInt(5); i > 0; i--) {
            text.append('v').append(random.nextInt(10)).append(',').append(random.nextInt(10)).append(';');
        }
        if (random.nextInt(3) == 0) {
            spoil(text);
        }
        for (int i = 0; i < text.length(); i++) {
            int letter = text.charAt(i);
            same("feed(" + letter + ")", x.feed(letter), m.feed(letter));
        }
        same("door() of " + text, x.door(), m.door());
        same("fault()", x.fault(), m.fault());
    }

    private void spoil(StringBuilder text) {
        String letters = "kecuhvd,;0123456789q ";
        int at = random.nextInt(text.length());
        char letter = letters.charAt(random.nextInt(letters.length()));
        switch (random.nextInt(4)) {
            case 0:
                text.setCharAt(at, letter);
                break;
            case 1:
                text.insert(at, letter);
                break;
            case 2:
                text.deleteCharAt(at);
                break;
            default:
                text.setLength(at);
        }
    }

    /** A row that often tells what is so of a square or of a visitor. */
    private void tellRow() {
        int row = random.nextInt(8);
        int lane = random.nextInt(3);
        int length = 5 + random.nextInt(8);
        same("row(" + row + ", " + lane + ", " + length + ")", x.row(row, lane, length), m.row(row, lane, length));
        int from = random.nextInt(3);
        boolean ofSquare = random.nextBoolean();
        int square = random.nextInt(8);
        int visitor = random.nextInt(5);
        for (int i = 0; from + i < length; i++) {
            int bits = ofSquare ? m.clicks(i) : m.clicks(visitor);
            int v = bits < 0 ? random.nextInt(3) : bits >> (ofSquare ? square : i) & 1;
            if (random.nextInt(20) == 0) {
                v = random.nextInt(4) - 1;
            }
            same("set(" + row + ", " + (from + i) + ", " + v + ")", x.set(row, from + i, v), m.set(row, from + i, v));
        }
        readRow(row, from);
    }

    private void readRow(int row, int from) {
        for (int square = 0; square < m.count(1); square++) {
            same("shares(" + square + ", " + row + ", " + from + ")", x.shares(square, row, from), m.shares(square, row, from));
            same("kinds(" + square + ", " + row + ", " + from + ")", x.kinds(square, row, from), m.kinds(square, row, from));
        }
        same("who(" + row + ", " + from + ")", x.who(row, from), m.who(row, from));
        for (int ear = 4; ear <= 5; ear++) {
            same("cares(" + ear + ", " + row + ", " + from + ")", x.cares(ear, row, from), m.cares(ear, row, from));
        }
    }

    private void act() {
        switch (random.nextInt(7)) {
            case 0:
                call(9);
                break;
            case 1:
                call(10);
                break;
            case 2:
                call(11);
                break;
            case 3:
                call(12);
                break;
            default:
                int many = random.nextInt(6) == 0 ? 60 : 4;
                for (int i = 0; i < many; i++) {
                    call(8);
                }
        }
    }

    private void call(int number) {
        int a;
        int b;
        int c;
        switch (number) {
            case 0:
                a = n(8);
                b = n(3);
                c = random.nextInt(5) == 0 ? n(41) : n(14);
                same("row(" + a + ", " + b + ", " + c + ")", x.row(a, b, c), m.row(a, b, c));
                break;
            case 1:
                a = n(8);
                b = n(12);
                c = random.nextInt(2) == 0 ? random.nextInt() : random.nextInt(2);
                same("set(" + a + ", " + b + ", " + c + ")", x.set(a, b, c), m.set(a, b, c));
                break;
            case 2:
                a = n(8);
                b = n(8);
                c = n(8);
                int j = n(8);
                int many = n(8);
                same("copy(" + a + ", " + b + ", " + c + ", " + j + ", " + many + ")",
                        x.copy(a, b, c, j, many), m.copy(a, b, c, j, many));
                break;
            case 3:
                a = n(30);
                same("drop(" + a + ")", x.drop(a), m.drop(a));
                break;
            case 4:
                a = random.nextInt(3) == 0 ? n(256) : -1;
                same("feed(" + a + ")", x.feed(a), m.feed(a));
                break;
            case 5:
                if (random.nextInt(4) == 0) {
                    same("door()", x.door(), m.door());
                }
                break;
            case 6:
                same("fault()", x.fault(), m.fault());
                break;
            case 7:
                same("undo()", x.undo(), m.undo());
                break;
            case 8:
                a = visitor();
                b = squares();
                same("pose(" + a + ", " + b + ")", x.pose(a, b), m.pose(a, b));
                break;
            case 9:
                a = random.nextInt(3) == 0 ? n(9) : n(3);
                same("strict(" + a + ")", x.strict(a), m.strict(a));
                break;
            case 10:
                a = square();
                b = n(10);
                same("share(" + a + ", " + b + ")", x.share(a, b), m.share(a, b));
                break;
            case 11:
                a = square();
                same("settle(" + a + ")", x.settle(a), m.settle(a));
                break;
            case 12:
                a = n(2);
                same("image(" + a + ")", x.image(a), m.image(a));
                break;
            case 13:
                a = n(2);
                same("restore(" + a + ")", x.restore(a), m.restore(a));
                break;
            default:
                ask(number);
        }
    }

    private void ask(int number) {
        int a;
        int b;
        int c;
        switch (number) {
            case 14:
                a = square();
                b = n(6);
                same("square(" + a + ", " + b + ")", x.square(a, b), m.square(a, b));
                break;
            case 15:
                a = visitor();
                b = n(4);
                same("visitor(" + a + ", " + b + ")", x.visitor(a, b), m.visitor(a, b));
                break;
            case 16:
                a = visitor();
                b = square();
                same("sees(" + a + ", " + b + ")", x.sees(a, b), m.sees(a, b));
                break;
            case 17:
                a = visitor();
                same("clicks(" + a + ")", x.clicks(a), m.clicks(a));
                break;
            case 18:
                a = visitor();
                b = squares();
                same("wrong(" + a + ", " + b + ")", x.wrong(a, b), m.wrong(a, b));
                break;
            case 19:
                a = squares();
                same("guests(" + a + ")", x.guests(a), m.guests(a));
                break;
            case 20:
                a = visitors();
                b = n(2);
                same("fewest(" + a + ", " + b + ")", x.fewest(a, b), m.fewest(a, b));
                break;
            case 21:
                a = visitors();
                b = squares();
                same("harsh(" + a + ", " + b + ")", x.harsh(a, b), m.harsh(a, b));
                break;
            case 22:
                a = n(2);
                same("keen(" + a + ")", x.keen(a), m.keen(a));
                break;
            case 23:
                a = squares();
                b = n(2);
                same("tells(" + a + ", " + b + ")", x.tells(a, b), m.tells(a, b));
                break;
            case 24:
                a = square();
                same("learned(" + a + ")", x.learned(a), m.learned(a));
                break;
            case 25:
                a = square();
                same("needs(" + a + ")", x.needs(a), m.needs(a));
                break;
            case 26:
                a = squares();
                b = n(2);
                same("save(" + a + ", " + b + ")", x.save(a, b), m.save(a, b));
                break;
            case 27:
                a = square();
                b = n(8);
                c = n(5);
                same("shares(" + a + ", " + b + ", " + c + ")", x.shares(a, b, c), m.shares(a, b, c));
                break;
            case 28:
                a = square();
                b = n(8);
                c = n(5);
                same("kinds(" + a + ", " + b + ", " + c + ")", x.kinds(a, b, c), m.kinds(a, b, c));
                break;
            case 29:
                a = n(8);
                b = n(5);
                same("who(" + a + ", " + b + ")", x.who(a, b), m.who(a, b));
                break;
            case 30:
                a = n(10);
                b = n(8);
                c = n(5);
                same("cares(" + a + ", " + b + ", " + c + ")", x.cares(a, b, c), m.cares(a, b, c));
                break;
            case 31:
                a = visitor();
                b = squares();
                c = n(11);
                int what = n(2);
                same("slip(" + a + ", " + b + ", " + c + ", " + what + ")", x.slip(a, b, c, what), m.slip(a, b, c, what));
                break;
            case 32:
                a = n(61);
                b = random.nextInt(10) == 0 ? n(5) : 1 + random.nextInt(999999);
                c = n(2);
                same("drawn(" + a + ", " + b + ", " + c + ")", x.drawn(a, b, c), m.drawn(a, b, c));
                break;
            case 33:
                a = square();
                same("kind(" + a + ")", x.kind(a), m.kind(a));
                break;
            case 34:
                a = square();
                b = n(6);
                same("as(" + a + ", " + b + ")", x.as(a, b), m.as(a, b));
                break;
            case 35:
                a = square();
                b = n(2);
                same("ask(" + a + ", " + b + ")", x.ask(a, b), m.ask(a, b));
                break;
            case 36:
                a = n(7);
                same("trace(" + a + ")", x.trace(a), m.trace(a));
                break;
            case 37:
            case 38:
                a = n(8);
                same("count(" + a + ")", x.count(a), m.count(a));
                break;
            default:
                same("status()", x.status(), m.status());
        }
    }
}
