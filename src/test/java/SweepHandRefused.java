import java.util.NoSuchElementException;

/**
 * Every call that the document refuses, in every kind of state: it throws the exception that the
 * document names, and changes nothing. Two objects are brought to the same state, one of them gets
 * the refused call, and from then on both must answer alike; so what no single answer shows (which
 * of the free pieces came to be free latest) is compared too.
 */
public final class SweepHandRefused {
    private static final Class<?> ARGUMENT = IllegalArgumentException.class;
    private static final Class<?> STATE = IllegalStateException.class;
    private static final Class<?> ELEMENT = NoSuchElementException.class;
    private static int wrong = 0;
    private static int tests = 0;

    private interface Call {
        void on(SweepHand x);
    }

    private enum State {
        NEW(false), LEAST(false), MOST(false), FULL(false), CRUMBS(false), MANY(false),
        AT_FIRST(true), AT_FREE(true), AT_MARKED(true), AT_LAST(true), AT_LAST_CRUMB(true),
        ONE_FREE(true), FULL_SWEPT(true), BEHIND_ALL(false);

        final boolean isSweep;

        State(boolean isSweep) {
            this.isSweep = isSweep;
        }
    }

    private static SweepHand store(int cells, int... sizes) {
        SweepHand x = new SweepHand();
        x.space(cells);
        for (int size : sizes) {
            x.take(size);
        }
        return x;
    }

    /** Free pieces of one size that came to be free in no order of addresses, marks, and a past. */
    private static SweepHand many() {
        SweepHand x = store(100, 30, 5, 5, 5, 5, 5, 5, 5, 5, 5, 5, 10);
        x.take(50);
        for (int a = 31; a <= 76; a += 5) {
            x.mark(a);
        }
        x.begin();
        x.sweep(5000);
        for (int a : new int[] {51, 31, 71, 41, 61}) {
            x.give(a);
        }
        for (int a : new int[] {36, 46, 56, 66}) {
            x.mark(a);
        }
        x.take(2000);
        return x;
    }

    private static SweepHand manyWithHand(int steps) {
        SweepHand x = many();
        x.begin();
        x.sweep(steps);
        return x;
    }

    private static SweepHand crumbs() {
        SweepHand x = store(40, 10, 3, 10, 3, 10, 3);
        x.give(1);
        x.give(14);
        x.take(8);
        x.take(9);
        return x;
    }

    private static SweepHand withHandAtLast(int size) {
        SweepHand x = store(16, 6, size);
        x.mark(1);
        x.mark(7);
        x.begin();
        x.sweep(size == 10 ? 1 : 2);
        return x;
    }

    private static SweepHand begun(SweepHand x) {
        x.begin();
        return x;
    }

    private static SweepHand made(State state) {
        switch (state) {
            case NEW: return new SweepHand();
            case LEAST: return store(16);
            case MOST: return store(16384);
            case FULL: return store(30, 10, 10, 10);
            case CRUMBS: return crumbs();
            case MANY: return many();
            case AT_FIRST: return manyWithHand(0);
            case AT_FREE: return manyWithHand(2);
            case AT_MARKED: return manyWithHand(1);
            case AT_LAST: return withHandAtLast(10);
            case AT_LAST_CRUMB: return withHandAtLast(9);
            case ONE_FREE: return begun(store(16));
            case FULL_SWEPT: return begun(store(30, 10, 10, 10));
            default: return manyWithHand(5000);
        }
    }

    private static void tellPieces(SweepHand x, StringBuilder tale) {
        int cells = x.count(7);
        for (int a = 1; a <= cells && x.piece(a) != 0; a += Math.abs(x.piece(a))) {
            tale.append(a).append(':').append(x.piece(a)).append(x.marked(a) ? "m " : " ");
        }
        for (int what = 0; what <= 10; what++) {
            tale.append(x.count(what)).append(' ');
        }
        tale.append("hand ").append(x.hand()).append(" faults ").append(x.faults()).append("; ");
    }

    private static void tellTakes(SweepHand x, StringBuilder tale) {
        for (int size : new int[] {5, 4, 10, 3}) {
            for (int i = 0; i < 6; i++) {
                tale.append("take ").append(x.take(size)).append(' ');
            }
        }
    }

    /** All that the object tells now, and what becomes of it. */
    private static String taleOf(SweepHand x) {
        StringBuilder tale = new StringBuilder();
        tellPieces(x, tale);
        tellTakes(x, tale);
        tellPieces(x, tale);
        tale.append("sweep ").append(x.sweep(5000)).append(' ');
        tellPieces(x, tale);
        tellTakes(x, tale);
        return tale.toString();
    }

    private static void refused(State state, String what, Class<?> want, Call call) {
        tests++;
        SweepHand x = made(state);
        Class<?> got = null;
        try {
            call.on(x);
        } catch (RuntimeException e) {
            got = e.getClass();
        }
        if (got != want) {
            wrong++;
            System.out.println(state + ": " + what + " threw " + got + ", due is " + want);
        }
        String tale = taleOf(x);
        String untouched = taleOf(made(state));
        if (!tale.equals(untouched)) {
            wrong++;
            System.out.println(state + ": " + what + " changed something:\n  " + tale + "\n  " + untouched);
        }
    }

    private static void wrongNumbers(State state) {
        for (int n : new int[] {15, 16385, 0, -16, Integer.MIN_VALUE, Integer.MAX_VALUE}) {
            refused(state, "space(" + n + ")", ARGUMENT, x -> x.space(n));
        }
        for (int size : new int[] {2, 2001, 1, 0, -3, Integer.MIN_VALUE, Integer.MAX_VALUE}) {
            refused(state, "take(" + size + ")", ARGUMENT, x -> x.take(size));
        }
        for (int n : new int[] {-1, 5001, Integer.MIN_VALUE, Integer.MAX_VALUE}) {
            refused(state, "sweep(" + n + ")", ARGUMENT, x -> x.sweep(n));
        }
        for (int what : new int[] {-1, 11, Integer.MIN_VALUE, Integer.MAX_VALUE}) {
            refused(state, "count(" + what + ")", ARGUMENT, x -> x.count(what));
        }
    }

    private static void wrongAddress(State state, int a) {
        boolean isUsed = made(state).piece(a) > 0;
        if (!isUsed) {
            refused(state, "give(" + a + ")", ELEMENT, x -> x.give(a));
            refused(state, "mark(" + a + ")", ELEMENT, x -> x.mark(a));
        } else if (state.isSweep) {
            refused(state, "mark(" + a + ")", STATE, x -> x.mark(a));
        }
    }

    private static void wrongAddresses(State state) {
        int cells = made(state).count(7);
        for (int a = -1; a <= cells + 1; a++) {
            if (a <= 101 || a >= cells - 1) {
                wrongAddress(state, a);
            }
        }
        for (int a : new int[] {-cells, 1025, 16384, 16385, Integer.MIN_VALUE, Integer.MAX_VALUE}) {
            wrongAddress(state, a);
        }
    }

    private static void wrongTime(State state) {
        boolean isSweep = made(state).hand() != 0;
        if (isSweep != state.isSweep) {
            wrong++;
            System.out.println(state + ": there is a sweep: " + isSweep + ", due is " + state.isSweep);
        }
        if (state.isSweep) {
            refused(state, "unmark()", STATE, x -> x.unmark());
            refused(state, "begin()", STATE, x -> x.begin());
        }
    }

    /** Calls whose answer is 0 or false and that the document does not let change anything. */
    private static void answersThatChangeNothing(State state) {
        refused(state, "sweep(0)", null, x -> x.sweep(0));
        refused(state, "hand()", null, x -> x.hand());
        refused(state, "faults()", null, x -> x.faults());
        for (int a : new int[] {Integer.MIN_VALUE, 0, 1, 2, 31, 101, Integer.MAX_VALUE}) {
            refused(state, "piece(" + a + ")", null, x -> x.piece(a));
            refused(state, "marked(" + a + ")", null, x -> x.marked(a));
        }
        for (int what = 0; what <= 10; what++) {
            int number = what;
            refused(state, "count(" + what + ")", null, x -> x.count(number));
        }
        if (!state.isSweep) {
            refused(state, "sweep(5000)", null, x -> x.sweep(5000));
        }
    }

    public static void main(String[] args) {
        for (State state : State.values()) {
            wrongNumbers(state);
            wrongAddresses(state);
            wrongTime(state);
            answersThatChangeNothing(state);
        }
        System.out.println(tests + " calls: " + (wrong == 0 ? "all are refused as due" : wrong + " things are not as due"));
        if (wrong != 0) {
            System.exit(1);
        }
    }
}
