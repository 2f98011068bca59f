import java.util.NoSuchElementException;

/** For each promise of the document: ordinary inputs, the edges it names, and wrong inputs. */
public final class SweepHandPromises {
    private static int wrong = 0;

    private interface Call {
        void run();
    }

    private static void due(String what, long got, long want) {
        if (got != want) {
            wrong++;
            System.out.println(what + " answered " + got + ", due is " + want);
        }
    }

    private static void due(String what, boolean got, boolean want) {
        due(what, got ? 1 : 0, want ? 1 : 0);
    }

    /** What the face tells of an object; walks from piece to piece to stay within 512 calls. */
    private static String stateOf(SweepHand x) {
        StringBuilder state = new StringBuilder();
        int cells = x.count(7);
        for (int a = 1; a <= cells; ) {
            int piece = x.piece(a);
            if (piece == 0) {
                return state.append("no piece at ").append(a).toString();
            }
            state.append(a).append(':').append(piece).append(x.marked(a) ? "m " : " ");
            a += Math.abs(piece);
        }
        for (int what = 0; what <= 10; what++) {
            state.append(x.count(what)).append(' ');
        }
        return state.append("hand ").append(x.hand()).append(" faults ").append(x.faults()).toString();
    }

    private static void dueThrow(String what, SweepHand x, Class<?> want, Call call) {
        String before = stateOf(x);
        Class<?> got = null;
        try {
            call.run();
        } catch (RuntimeException e) {
            got = e.getClass();
        }
        if (got != want) {
            wrong++;
            System.out.println(what + " threw " + got + ", due is " + want);
        }
        String after = stateOf(x);
        if (!before.equals(after)) {
            wrong++;
            System.out.println(what + " changed " + before + " to " + after);
        }
    }

    private static void dueState(String what, SweepHand x, String want) {
        String got = stateOf(x);
        if (!got.equals(want)) {
            wrong++;
            System.out.println(what + ": state is " + got + ", due is " + want);
        }
    }

    private static SweepHand withCells(int n) {
        SweepHand x = new SweepHand();
        x.space(n);
        return x;
    }

    private static void promise1NewObject() {
        SweepHand x = new SweepHand();
        dueState("1: new", x, "1:-1024 1024 0 0 1 0 1024 0 1024 0 0 0 hand 0 faults 0");
        due("1: sweep without a sweep", x.sweep(5), 0);
    }

    private static void promise2Space() {
        SweepHand x = new SweepHand();
        due("2: space(16)", x.space(16), 1024);
        due("2: space(16384)", x.space(16384), 16);
        dueState("2: most cells", x, "1:-16384 16384 0 0 1 0 16384 0 16384 0 0 0 hand 0 faults 0");
        for (int n : new int[] {15, 16385, 0, -1, Integer.MIN_VALUE, Integer.MAX_VALUE}) {
            dueThrow("2: space(" + n + ")", x, IllegalArgumentException.class, () -> x.space(n));
        }
        allThatWasGoes();
    }

    private static void allThatWasGoes() {
        SweepHand x = withCells(20);
        x.take(10);
        x.take(5);
        x.take(100);
        x.begin();
        x.sweep(1);
        x.take(7);
        x.mark(1);
        x.begin();
        dueThrow("2: space(15) in a sweep", x, IllegalArgumentException.class, () -> x.space(15));
        due("2: hand before space", x.hand(), 1);
        due("2: space(30) in a sweep", x.space(30), 20);
        dueState("2: all goes", x, "1:-30 30 0 0 1 0 30 0 30 0 0 0 hand 0 faults 0");
        due("2: take after space", x.take(3), 1);
        due("2: not marked without a sweep", x.marked(1), false);
    }

    private static void promise3Take() {
        SweepHand x = withCells(5000);
        due("3: take(2000)", x.take(2000), 1);
        due("3: take(3)", x.take(3), 2001);
        due("3: take(1997)", x.take(1997), 2004);
        due("3: none suffices", x.take(1001), 0);
        due("3: exact fit", x.take(1000), 4001);
        due("3: nothing is free", x.take(3), 0);
        dueState("3: full", x, "1:2000 2001:3 2004:1997 4001:1000 0 0 4 0 0 0 2 5000 0 0 0 hand 0 faults 0");
        for (int size : new int[] {2, 2001, 0, -3, Integer.MIN_VALUE, Integer.MAX_VALUE}) {
            dueThrow("3: take(" + size + ")", x, IllegalArgumentException.class, () -> x.take(size));
        }
        smallestIsTaken();
        latestOfSeveralIsTaken();
        cutRestIsLatest();
        crumbsAreNotTaken();
    }

    private static void smallestIsTaken() {
        SweepHand x = withCells(100);
        x.take(20);
        x.take(3);
        x.take(10);
        x.take(3);
        x.take(15);
        x.take(3);
        x.give(1);
        x.give(24);
        x.give(37);
        due("3: smallest that suffices", x.take(12), 37);
        due("3: smaller before latest", x.take(3), 49);
        due("3: smallest that suffices, exact", x.take(10), 24);
        due("3: lower part is used", x.take(11), 1);
        due("3: the rest is free", x.piece(12), -9);
    }

    private static void latestOfSeveralIsTaken() {
        SweepHand x = withCells(60);
        for (int i = 0; i < 6; i++) {
            x.take(10);
        }
        x.give(41);
        x.give(1);
        x.give(21);
        due("3: latest of three", x.take(10), 21);
        due("3: latest of two", x.take(10), 1);
        x.give(1);
        due("3: latest given again", x.take(9), 1);
        due("3: the only one of ten", x.take(9), 41);
        due("3: no crumb is taken", x.take(3), 0);
    }

    private static void cutRestIsLatest() {
        SweepHand x = withCells(30);
        x.take(5);
        x.take(5);
        x.take(20);
        x.give(1);
        x.give(11);
        due("3: cut of twenty", x.take(15), 11);
        due("3: rest of the cut is the latest of five", x.take(5), 26);
        due("3: then the older one", x.take(5), 1);
    }

    private static void crumbsAreNotTaken() {
        SweepHand x = withCells(16);
        due("3: take(14)", x.take(14), 1);
        due("3: a crumb does not suffice", x.take(3), 0);
        due("3: crumb", x.piece(15), -2);
        due("3: vain take is counted", x.count(6), 1);
    }

    private static void promise4Give() {
        SweepHand x = withCells(40);
        x.take(10);
        x.take(12);
        x.take(5);
        x.mark(11);
        due("4: give(11)", x.give(11), 12);
        due("4: the mark goes", x.marked(11), false);
        due("4: no marked piece", x.count(8), 0);
        due("4: give(1)", x.give(1), 10);
        dueState("4: neighbours stay", x, "1:-10 11:-12 23:5 28:-13 35 0 1 3 0 13 0 40 0 0 0 hand 0 faults 0");
        for (int a : new int[] {1, 28, 24, 0, 41, -1, Integer.MIN_VALUE, Integer.MAX_VALUE}) {
            dueThrow("4: give(" + a + ")", x, NoSuchElementException.class, () -> x.give(a));
        }
        due("4: take after give has no mark", x.take(12), 11);
        due("4: the old mark is gone", x.marked(11), false);
        givenAtTheHand();
    }

    private static void givenAtTheHand() {
        SweepHand x = withCells(40);
        x.take(10);
        x.take(10);
        x.take(10);
        x.mark(1);
        x.mark(11);
        x.mark(21);
        x.begin();
        x.sweep(1);
        due("4: give at the hand", x.give(11), 10);
        due("4: the hand stays", x.hand(), 11);
        due("4: give before the hand", x.give(1), 10);
        due("4: the hand still stays", x.hand(), 11);
        due("4: step over the given one", x.sweep(1), 1);
        due("4: what was given is not swept", x.count(9), 0);
        due("4: the hand goes on", x.hand(), 21);
        due("4: nothing joins over the hand", x.piece(1), -10);
    }

    private static void promise5Mark() {
        SweepHand x = withCells(40);
        x.take(10);
        x.take(10);
        due("5: mark(11)", x.mark(11), true);
        due("5: mark(11) again", x.mark(11), false);
        due("5: marked(11)", x.marked(11), true);
        due("5: marked(1)", x.marked(1), false);
        for (int a : new int[] {21, 2, 0, 41, -7, Integer.MIN_VALUE, Integer.MAX_VALUE}) {
            dueThrow("5: mark(" + a + ")", x, NoSuchElementException.class, () -> x.mark(a));
        }
        x.begin();
        dueThrow("5: mark(1) in a sweep", x, IllegalStateException.class, () -> x.mark(1));
        dueThrow("5: mark(11) in a sweep", x, IllegalStateException.class, () -> x.mark(11));
        dueThrow("5: mark(21) in a sweep", x, NoSuchElementException.class, () -> x.mark(21));
        dueThrow("5: mark(5) in a sweep", x, NoSuchElementException.class, () -> x.mark(5));
        x.sweep(5000);
        due("5: mark after a sweep", x.mark(11), true);
    }

    private static void promise6Unmark() {
        SweepHand x = withCells(40);
        due("6: nothing to unmark", x.unmark(), 0);
        x.take(10);
        x.take(10);
        x.take(10);
        x.mark(1);
        x.mark(21);
        due("6: unmark()", x.unmark(), 2);
        dueState("6: all marks are gone", x, "1:10 11:10 21:10 31:-10 10 0 3 1 0 10 0 40 0 0 0 hand 0 faults 0");
        due("6: unmark() again", x.unmark(), 0);
        x.mark(11);
        x.begin();
        dueThrow("6: unmark() in a sweep", x, IllegalStateException.class, () -> x.unmark());
    }

    private static void promise7Begin() {
        SweepHand x = withCells(40);
        x.take(10);
        x.begin();
        due("7: the hand is at first 1", x.hand(), 1);
        dueThrow("7: begin() in a sweep", x, IllegalStateException.class, () -> x.begin());
        due("7: nothing ended", x.count(10), 0);
        due("7: nothing is swept yet", x.piece(1), 10);
        x.sweep(1);
        due("7: it ended", x.count(10), 1);
        x.begin();
        due("7: a second sweep", x.hand(), 1);
        x.space(40);
        x.begin();
        due("7: a sweep after space", x.hand(), 1);
    }

    private static void promise8Sweep() {
        SweepHand x = withCells(60);
        for (int i = 0; i < 5; i++) {
            x.take(10);
        }
        due("8: without a sweep", x.sweep(5000), 0);
        x.give(21);
        x.mark(31);
        x.begin();
        due("8: sweep(0)", x.sweep(0), 0);
        due("8: two used and a free one", x.sweep(1), 1);
        dueState("8: they are one", x, "1:-30 31:10m 41:10 51:-10 40 0 2 2 0 30 0 60 1 2 0 hand 31 faults 0");
        due("8: the marked one", x.sweep(1), 1);
        dueState("8: it lost its mark", x, "1:-30 31:10 41:10 51:-10 40 0 2 2 0 30 0 60 0 2 0 hand 41 faults 0");
        for (int n : new int[] {-1, 5001, Integer.MIN_VALUE, Integer.MAX_VALUE}) {
            dueThrow("8: sweep(" + n + ")", x, IllegalArgumentException.class, () -> x.sweep(n));
        }
        due("8: fewer steps than allowed", x.sweep(5000), 1);
        dueState("8: the end", x, "1:-30 31:10 41:-20 50 0 1 2 0 30 0 60 0 3 1 hand 0 faults 0");
        due("8: after the end", x.sweep(1), 0);
        dueThrow("8: sweep(-1) without a sweep", x, IllegalArgumentException.class, () -> x.sweep(-1));
        singleFreePieceStays();
        joinedFreePiecesAreLatest();
        takenInASweep();
        sweepEndsAtAMarkedPiece();
    }

    private static void singleFreePieceStays() {
        SweepHand x = withCells(40);
        for (int i = 0; i < 4; i++) {
            x.take(10);
        }
        x.mark(11);
        x.mark(31);
        x.give(1);
        x.give(21);
        x.begin();
        due("8: all steps", x.sweep(9), 4);
        due("8: nothing was swept", x.count(9), 0);
        x.mark(11);
        x.mark(31);
        x.begin();
        x.sweep(3);
        due("8: the latest is still the one given last", x.take(10), 21);
        x.sweep(9);
        SweepHand y = withCells(40);
        for (int i = 0; i < 4; i++) {
            y.take(10);
        }
        y.mark(11);
        y.mark(31);
        y.give(21);
        y.give(1);
        y.begin();
        y.sweep(9);
        due("8: a single free piece keeps its time", y.take(10), 1);
    }

    private static void joinedFreePiecesAreLatest() {
        SweepHand x = withCells(34);
        x.take(5);
        x.take(5);
        x.take(4);
        x.take(10);
        x.take(10);
        x.mark(11);
        x.mark(25);
        x.give(1);
        x.give(6);
        x.give(15);
        x.begin();
        due("8: two free pieces join", x.sweep(1), 1);
        due("8: as one", x.piece(1), -10);
        due("8: nothing begins between", x.piece(6), 0);
        due("8: none of them was swept", x.count(9), 0);
        due("8: the joined piece came to be free now", x.take(10), 1);
    }

    private static void takenInASweep() {
        SweepHand x = withCells(60);
        for (int i = 0; i < 6; i++) {
            x.take(10);
        }
        x.mark(11);
        x.mark(31);
        x.give(1);
        x.give(21);
        x.give(41);
        x.begin();
        x.sweep(2);
        due("8: the hand is at a free piece", x.hand(), 21);
        due("8: taken behind the hand", x.take(10), 41);
        due("8: marked behind the hand", x.marked(41), true);
        due("8: taken at the hand and cut", x.take(4), 21);
        due("8: marked at the hand", x.marked(21), true);
        due("8: the hand stays at the cut", x.hand(), 21);
        due("8: the rest is not marked", x.marked(25), false);
        due("8: taken before the hand", x.take(10), 1);
        due("8: not marked before the hand", x.marked(1), false);
        due("8: to the end", x.sweep(9), 5);
        dueState("8: nothing taken is lost", x,
            "1:10 11:10 21:4 25:-6 31:10 41:10 51:-10 16 0 5 2 0 10 0 60 0 1 1 hand 0 faults 0");
    }

    private static void sweepEndsAtAMarkedPiece() {
        SweepHand x = withCells(16);
        x.take(16);
        x.mark(1);
        x.begin();
        due("8: the only piece", x.sweep(2), 1);
        dueState("8: it is kept", x, "1:16 0 0 1 0 0 0 0 16 0 0 1 hand 0 faults 0");
        x.begin();
        due("8: now it goes", x.sweep(1), 1);
        dueState("8: it is swept", x, "1:-16 16 0 0 1 0 16 0 16 0 1 2 hand 0 faults 0");
    }

    private static void promise9Hand() {
        SweepHand x = withCells(40);
        x.take(10);
        x.take(10);
        due("9: without a sweep", x.hand(), 0);
        x.mark(1);
        x.mark(11);
        x.begin();
        due("9: at first", x.hand(), 1);
        x.sweep(1);
        due("9: behind one", x.hand(), 11);
        x.sweep(1);
        due("9: behind two", x.hand(), 21);
        due("9: a cut at the hand", x.take(5), 21);
        due("9: it stays", x.hand(), 21);
        x.sweep(1);
        due("9: behind what was taken", x.hand(), 26);
        x.sweep(1);
        due("9: it ended", x.hand(), 0);
    }

    private static void promise10Piece() {
        SweepHand x = withCells(40);
        x.take(10);
        due("10: used", x.piece(1), 10);
        due("10: free", x.piece(11), -30);
        for (int a : new int[] {2, 10, 12, 40, 41, 0, -1, Integer.MIN_VALUE, Integer.MAX_VALUE}) {
            due("10: piece(" + a + ")", x.piece(a), 0);
        }
        x.give(1);
        due("10: given", x.piece(1), -10);
        x.begin();
        x.sweep(1);
        due("10: swept", x.piece(1), -40);
        due("10: gone", x.piece(11), 0);
    }

    private static void promise11Marked() {
        SweepHand x = withCells(40);
        x.take(10);
        x.take(10);
        x.mark(11);
        due("11: marked", x.marked(11), true);
        due("11: used, not marked", x.marked(1), false);
        due("11: free", x.marked(21), false);
        for (int a : new int[] {12, 20, 41, 0, -1, Integer.MIN_VALUE, Integer.MAX_VALUE}) {
            due("11: marked(" + a + ")", x.marked(a), false);
        }
    }

    private static void promise12Count() {
        SweepHand x = withCells(40);
        x.take(10);
        x.take(8);
        x.take(3);
        x.take(9);
        x.take(10);
        x.give(1);
        x.give(22);
        x.take(7);
        x.take(9);
        x.take(10);
        x.mark(22);
        x.mark(11);
        // 1: 9 used, 10: crumb, 11: 8 marked, 19: 3, 22: 7 marked, 29: crumb of 2, 31: 10
        int[] want = {3, 3, 5, 0, 2, 2, 1, 40, 2, 0, 0};
        for (int what = 0; what <= 10; what++) {
            due("12: count(" + what + ")", x.count(what), want[what]);
        }
        x.begin();
        x.sweep(5000);
        // 1: 10 free, 11: 8, 19: 3 free, 22: 7, 29: 12 free
        int[] later = {25, 0, 2, 3, 0, 12, 1, 40, 0, 3, 1};
        for (int what = 0; what <= 10; what++) {
            due("12: later count(" + what + ")", x.count(what), later[what]);
        }
        for (int what : new int[] {-1, 11, Integer.MIN_VALUE, Integer.MAX_VALUE}) {
            dueThrow("12: count(" + what + ")", x, IllegalArgumentException.class, () -> x.count(what));
        }
        crumbsOfOneAndTwo();
    }

    private static void crumbsOfOneAndTwo() {
        for (int rest = 0; rest <= 3; rest++) {
            SweepHand x = withCells(20);
            x.take(20 - rest);
            boolean isCrumb = rest == 1 || rest == 2;
            due("12: free cells, rest " + rest, x.count(0), rest);
            due("12: cells of crumbs, rest " + rest, x.count(1), isCrumb ? rest : 0);
            due("12: free pieces, rest " + rest, x.count(3), rest == 3 ? 1 : 0);
            due("12: crumbs, rest " + rest, x.count(4), isCrumb ? 1 : 0);
            due("12: greatest, rest " + rest, x.count(5), rest);
        }
    }

    private static void promise13Faults() {
        SweepHand x = withCells(50);
        due("13: new", x.faults(), 0);
        for (int i = 0; i < 8; i++) {
            x.take(6);
            due("13: after take", x.faults(), 0);
        }
        x.mark(1);
        x.mark(19);
        x.give(19);
        x.give(31);
        due("13: after give", x.faults(), 0);
        x.mark(25);
        x.begin();
        for (int i = 0; i < 6; i++) {
            x.sweep(1);
            due("13: after a step", x.faults(), 0);
            x.take(4);
            due("13: after a take in a sweep", x.faults(), 0);
        }
        x.space(16);
        due("13: after space", x.faults(), 0);
    }

    private static void allCallsMayBeTakes() {
        SweepHand x = withCells(16384);
        for (int i = 0; i < 510; i++) {
            due("3: many takes", x.take(3), 1 + 3 * i);
        }
        due("3: the last call", x.piece(1531), -(16384 - 1530));
    }

    public static void main(String[] args) {
        promise1NewObject();
        promise2Space();
        promise3Take();
        promise4Give();
        promise5Mark();
        promise6Unmark();
        promise7Begin();
        promise8Sweep();
        promise9Hand();
        promise10Piece();
        promise11Marked();
        promise12Count();
        promise13Faults();
        allCallsMayBeTakes();
        System.out.println(wrong == 0 ? "all answers are as due" : wrong + " answers are not as due");
        if (wrong != 0) {
            System.exit(1);
        }
    }
}
