import java.util.function.Consumer;
import java.util.function.ToLongFunction;

/** Calls that are refused: the answer, what status() tells then, and that all else is as with one that was not told. */
final class Refused {
    private final Due due;
    private final String where;
    private final Consumer<LampSquares> ahead;
    private final int statusAhead;
    private final String untouched;

    Refused(Due due, String where, Consumer<LampSquares> ahead) {
        this.due = due;
        this.where = where;
        this.ahead = ahead;
        LampSquares twin = told();
        statusAhead = twin.status();
        untouched = State.all(twin);
    }

    private LampSquares told() {
        LampSquares x = new LampSquares();
        ahead.accept(x);
        return x;
    }

    void is(String call, ToLongFunction<LampSquares> refused, int answer) {
        LampSquares x = told();
        due.is(call + " at " + where, refused.applyAsLong(x), answer);
        boolean finding = answer <= Due.NULL && answer >= Due.STORE;
        due.is("status() after " + call + " at " + where, x.status(), finding ? -1000010 - answer : statusAhead);
        due.holds("all stays after " + call + " at " + where, State.all(x).equals(untouched));
    }

    void bad(String call, ToLongFunction<LampSquares> refused) {
        is(call, refused, Due.BAD);
    }

    /** One that stands on an end is not refused; what it answers is told elsewhere. */
    void allowed(String call, ToLongFunction<LampSquares> kept) {
        long answer = kept.applyAsLong(told());
        due.holds(call + " at " + where + " is allowed, not " + answer, answer >= Due.NONE);
    }

    /** One below, one above, the least and the greatest there are. */
    static int[] outside(int least, int most) {
        return new int[] {least - 1, most + 1, Integer.MIN_VALUE, Integer.MAX_VALUE};
    }

    static int[] ends(int least, int most) {
        return new int[] {least, most};
    }
}
