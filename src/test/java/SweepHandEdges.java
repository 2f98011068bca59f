import java.util.Arrays;

/**
 * A test of its own for each sentence of the document that names a boundary case, in the document's
 * order; what calls that are refused must do stands in SweepHandRefused.
 */
public final class SweepHandEdges {
    private static int wrong = 0;
    private static int tests = 0;
    private static String sentence = "";

    private static void edge(String words, Runnable test) {
        sentence = words;
        tests++;
        try {
            test.run();
        } catch (RuntimeException e) {
            due("call", "threw " + e.getClass().getName(), "no exception");
        }
    }

    private static void due(String what, Object got, Object want) {
        if (!got.equals(want)) {
            wrong++;
            System.out.println("\"" + sentence + "\": " + what + " answered " + got + ", due is " + want);
        }
    }

    private static SweepHand store(int cells, int... sizes) {
        SweepHand x = new SweepHand();
        x.space(cells);
        for (int size : sizes) {
            x.take(size);
        }
        return x;
    }

    private static SweepHand marking(SweepHand x, int... addresses) {
        for (int a : addresses) {
            x.mark(a);
        }
        return x;
    }

    private static SweepHand giving(SweepHand x, int... addresses) {
        for (int a : addresses) {
            x.give(a);
        }
        return x;
    }

    private static SweepHand sweeping(SweepHand x, int steps) {
        x.begin();
        x.sweep(steps);
        return x;
    }

    /** Every piece as address:size, the size below 0 if it is free, with an m if it is marked. */
    private static String pieces(SweepHand x) {
        StringBuilder text = new StringBuilder();
        int cells = x.count(7);
        for (int a = 1; a <= cells; a += Math.abs(x.piece(a))) {
            if (x.piece(a) == 0) {
                return text.append("nothing at ").append(a).toString();
            }
            text.append(a == 1 ? "" : " ").append(a).append(':').append(x.piece(a));
            text.append(x.marked(a) ? "m" : "");
        }
        return text.toString();
    }

    private static void duePieces(SweepHand x, String want) {
        due("the pieces", pieces(x), want);
        due("faults()", x.faults(), 0);
    }

    private static void dueCounts(SweepHand x, int... want) {
        int[] got = new int[want.length];
        for (int what = 0; what < want.length; what++) {
            got[what] = x.count(what);
        }
        due("count(0), count(1), ..", Arrays.toString(got), Arrays.toString(want));
    }

    private static void terms() {
        edge("CELLS have ADDRESSES 1 .. n: the first and the last", () -> {
            SweepHand x = store(16, 13);
            due("take(3) up to the last cell", x.take(3), 14);
            duePieces(x, "1:13 14:3");
            due("piece(0)", x.piece(0), 0);
            due("piece(17)", x.piece(17), 0);
        });
        edge("CELLS have ADDRESSES 1 .. n: a piece that begins at n", () ->
            due("piece(16)", store(16, 15).piece(16), -1));
        edge("n is 1024 at first", () -> {
            SweepHand x = new SweepHand();
            due("take(1025)", x.take(1025), 0);
            due("take(1024)", x.take(1024), 1);
            duePieces(x, "1:1024");
        });
        edge("at first all are one free piece", () -> {
            SweepHand x = new SweepHand();
            duePieces(x, "1:-1024");
            due("piece(1024)", x.piece(1024), 0);
            dueCounts(x, 1024, 0, 0, 1, 0, 1024, 0, 1024, 0, 0, 0);
        });
        edge("Each is used or free: a full store", () -> {
            SweepHand x = store(30, 10, 10, 10);
            duePieces(x, "1:10 11:10 21:10");
            dueCounts(x, 0, 0, 3, 0, 0, 0, 0, 30, 0, 0, 0);
        });
        edge("Free pieces of one .. cells are CRUMBS", () ->
            dueCounts(store(20, 19), 1, 1, 1, 0, 1, 1));
        edge("Free pieces of .. two cells are CRUMBS", () ->
            dueCounts(store(20, 18), 2, 2, 1, 0, 1, 2));
        edge("Free pieces of one or two cells are CRUMBS: three cells are none", () ->
            dueCounts(store(20, 17), 3, 0, 1, 1, 0, 3));
    }

    private static void whatIsTaken() {
        edge("the free pieces that are no crumbs", () -> {
            SweepHand x = store(40, 10, 3, 10, 3, 10, 4);
            giving(x, 1, 14, 27);
            due("take(8)", x.take(8), 27);
            due("take(9)", x.take(9), 14);
            due("take(3)", x.take(3), 1);
            duePieces(x, "1:3 4:-7 11:3 14:9 23:-1 24:3 27:8 35:-2 37:4");
        });
        edge("have at least so many cells: just as many", () ->
            due("take(10)", giving(store(23, 10, 13), 1).take(10), 1));
        edge("have at least so many cells: one too few", () ->
            due("take(11)", giving(store(23, 10, 13), 1).take(11), 0));
        edge("the smallest: by one cell, and not the latest", () -> {
            SweepHand x = giving(store(40, 9, 3, 10, 3, 15), 1, 13);
            due("take(9)", x.take(9), 1);
            due("take(9) again", x.take(9), 13);
        });
        edge("the smallest: by one cell, and behind", () -> {
            SweepHand x = giving(store(40, 10, 3, 9, 3, 15), 14, 1);
            due("take(9)", x.take(9), 14);
        });
        edge("of several, the one that came to be free latest: given", () -> {
            SweepHand x = giving(store(60, 10, 10, 10, 10, 10, 10), 41, 1, 21);
            due("take(10)", x.take(10), 21);
            due("take(10)", x.take(10), 1);
            due("take(10)", x.take(10), 41);
        });
        edge("of several, the one that came to be free latest: lower addresses have no right", () ->
            due("take(4)", giving(store(30, 10, 10, 10), 1, 21).take(4), 21));
        edge("of several, the one that came to be free latest: a rest", () -> {
            SweepHand x = giving(store(30, 5, 5, 20), 1, 11);
            due("take(15)", x.take(15), 11);
            due("take(5)", x.take(5), 26);
            due("take(5)", x.take(5), 1);
        });
        edge("of several, the one that came to be free latest: a rest, then a given one", () -> {
            SweepHand x = giving(store(30, 5, 5, 20), 11);
            due("take(15)", x.take(15), 11);
            x.give(1);
            due("take(5)", x.take(5), 1);
        });
        edge("of several, the one that came to be free latest: the whole store at first", () -> {
            SweepHand x = store(20, 10);
            x.give(1);
            due("take(10)", x.take(10), 1);
        });
        edge("If it has more cells, it is cut: no more cells", () ->
            duePieces(store(16, 16), "1:16"));
        edge("If it has more cells, it is cut: one more", () -> duePieces(store(16, 15), "1:15 16:-1"));
        edge("If it has more cells, it is cut: two more", () -> duePieces(store(16, 14), "1:14 15:-2"));
        edge("If it has more cells, it is cut: three more", () -> duePieces(store(16, 13), "1:13 14:-3"));
        edge("the rest comes to be free as a piece of its own: beside a free one", () -> {
            SweepHand x = giving(store(30, 10, 12), 11, 1);
            due("take(4)", x.take(4), 23);
            due("take(7)", x.take(7), 1);
            duePieces(x, "1:7 8:-3 11:-12 23:4 27:-4");
        });
    }

    private static void handAndEnd() {
        edge("a HAND .. at first 1: one free piece", () -> {
            SweepHand x = sweeping(store(16), 0);
            due("hand()", x.hand(), 1);
            due("count(10)", x.count(10), 0);
        });
        edge("a HAND .. at first 1: a full store", () -> {
            SweepHand x = sweeping(store(16, 16), 0);
            due("hand()", x.hand(), 1);
            duePieces(x, "1:16");
        });
        edge("it ends when the hand is behind all cells: not at the last piece", () -> {
            SweepHand x = sweeping(marking(store(16, 6, 10), 1, 7), 1);
            due("hand()", x.hand(), 7);
            due("count(10)", x.count(10), 0);
            duePieces(x, "1:6 7:10m");
        });
        edge("it ends when the hand is behind all cells: not at a last piece of one cell", () -> {
            SweepHand x = sweeping(marking(store(16, 15), 1), 1);
            due("hand()", x.hand(), 16);
            due("count(10)", x.count(10), 0);
            due("sweep(1)", x.sweep(1), 1);
            due("hand() then", x.hand(), 0);
            due("count(10) then", x.count(10), 1);
            duePieces(x, "1:15 16:-1");
        });
        edge("it ends when the hand is behind all cells: behind a marked piece", () -> {
            SweepHand x = sweeping(marking(store(16, 6, 10), 1, 7), 2);
            due("hand()", x.hand(), 0);
            due("count(10)", x.count(10), 1);
            duePieces(x, "1:6 7:10");
        });
        edge("it ends when the hand is behind all cells: behind a swept piece", () -> {
            SweepHand x = sweeping(marking(store(16, 6, 10), 1), 2);
            due("hand()", x.hand(), 0);
            due("count(10)", x.count(10), 1);
            duePieces(x, "1:6 7:-10");
        });
        edge("it ends when the hand is behind all cells: behind a free piece", () -> {
            SweepHand x = sweeping(marking(store(16, 6), 1), 2);
            due("hand()", x.hand(), 0);
            due("count(10)", x.count(10), 1);
            duePieces(x, "1:6 7:-10");
        });
        edge("it ends: one free piece is one step", () -> {
            SweepHand x = store(16384);
            x.begin();
            due("sweep(5000)", x.sweep(5000), 1);
            due("hand()", x.hand(), 0);
            dueCounts(x, 16384, 0, 0, 1, 0, 16384, 0, 16384, 0, 0, 1);
        });
    }

    private static void step() {
        edge("if the piece at the hand is used and marked, it loses its mark: it stays used", () -> {
            SweepHand x = sweeping(marking(store(30, 10, 10), 1, 11), 1);
            duePieces(x, "1:10 11:10m 21:-10");
            due("hand()", x.hand(), 11);
            due("count(9)", x.count(9), 0);
        });
        edge("Otherwise: the piece at the hand alone, as the next is marked", () -> {
            SweepHand x = sweeping(marking(store(30, 10, 10, 10), 11), 1);
            duePieces(x, "1:-10 11:10m 21:10");
            due("hand()", x.hand(), 11);
        });
        edge("Otherwise: all pieces, as none is marked", () -> {
            SweepHand x = giving(store(30, 5, 6, 7, 8), 6);
            x.begin();
            due("sweep(5000)", x.sweep(5000), 1);
            duePieces(x, "1:-30");
            dueCounts(x, 30, 0, 0, 1, 0, 30, 0, 30, 0, 3, 1);
        });
        edge("Otherwise: a full store without marks", () -> {
            SweepHand x = sweeping(store(30, 10, 10, 10), 1);
            duePieces(x, "1:-30");
            due("count(9)", x.count(9), 3);
        });
        edge("Otherwise: crumbs become part of a free piece", () -> {
            SweepHand x = sweeping(marking(giving(store(16, 5, 4, 5), 6), 1), 5);
            duePieces(x, "1:5 6:-11");
            dueCounts(x, 11, 0, 1, 1, 0, 11, 0, 16, 0, 1, 1);
        });
        edge("that piece and those behind it: not those before it", () -> {
            SweepHand x = marking(store(40, 10, 10, 10), 11);
            sweeping(x, 2);
            due("hand()", x.hand(), 21);
            x.give(11);
            due("sweep(1)", x.sweep(1), 1);
            duePieces(x, "1:-10 11:-10 21:-20");
        });
        edge("one directly behind another: a marked one parts them", () -> {
            SweepHand x = sweeping(marking(store(40, 10, 10, 10), 11), 5);
            duePieces(x, "1:-10 11:10 21:-20");
            due("count(9)", x.count(9), 2);
        });
        edge("one free piece, which comes to be free now: of one that was used", () -> {
            SweepHand x = giving(marking(store(40, 10, 10, 10, 10), 11, 31), 21);
            sweeping(x, 1);
            due("take(10)", x.take(10), 1);
            due("take(10)", x.take(10), 21);
        });
        edge("one free piece, which comes to be free now: of two that were free", () -> {
            SweepHand x = marking(store(40, 5, 5, 10, 10, 10), 11, 31);
            giving(x, 1, 6, 21);
            sweeping(x, 1);
            due("take(10)", x.take(10), 1);
            due("count(9)", x.count(9), 0);
        });
        edge("if it is a single piece that was free, it stays as it is", () -> {
            SweepHand x = marking(giving(store(40, 10, 10, 10, 10), 21, 1), 11, 31);
            due("sweep(5000) before", x.sweep(5000), 0);
            sweeping(x, 5000);
            due("take(10)", x.take(10), 1);
            due("take(10)", x.take(10), 21);
            due("count(9)", x.count(9), 0);
        });
        edge("if it is a single piece that was free, it stays as it is: the first of two", () -> {
            SweepHand x = marking(giving(store(40, 10, 10, 10, 10), 1, 21), 11, 31);
            sweeping(x, 1);
            due("take(10)", x.take(10), 21);
        });
        edge("if it is a single piece that was free, it stays as it is: a crumb", () -> {
            SweepHand x = marking(store(20, 8, 10), 1, 9);
            sweeping(x, 5000);
            duePieces(x, "1:8 9:10 19:-2");
            dueCounts(x, 2, 2, 2, 0, 1, 2, 0, 20, 0, 0, 1);
        });
        edge("the used ones among them are SWEPT: the free ones are not", () -> {
            SweepHand x = sweeping(giving(store(40, 10, 10, 10, 10), 1, 21), 1);
            due("count(9)", x.count(9), 2);
        });
    }

    private static void takenMeanwhile() {
        edge("marked at once if it begins at the hand: the first piece", () -> {
            SweepHand x = sweeping(store(16), 0);
            due("take(16)", x.take(16), 1);
            duePieces(x, "1:16m");
            due("sweep(5000)", x.sweep(5000), 1);
            duePieces(x, "1:16");
        });
        edge("marked at once if it begins at the hand: the last piece", () -> {
            SweepHand x = sweeping(marking(store(16, 6), 1), 1);
            due("take(10)", x.take(10), 7);
            due("hand()", x.hand(), 7);
            duePieces(x, "1:6 7:10m");
        });
        edge("marked at once if it begins .. behind it: directly behind", () -> {
            SweepHand x = sweeping(store(16, 6), 0);
            due("take(10)", x.take(10), 7);
            duePieces(x, "1:6 7:10m");
            due("sweep(5000)", x.sweep(5000), 2);
            duePieces(x, "1:-6 7:10");
        });
        edge("marked at once if it begins at the hand or behind it: not directly before", () -> {
            SweepHand x = sweeping(marking(store(16, 6, 10), 7), 1);
            due("hand()", x.hand(), 7);
            due("take(6)", x.take(6), 1);
            duePieces(x, "1:6 7:10m");
            due("sweep(5000)", x.sweep(5000), 1);
            duePieces(x, "1:6 7:10");
        });
        edge("What is taken during a sweep: not before it", () -> {
            SweepHand x = store(16, 6);
            x.begin();
            duePieces(x, "1:6 7:-10");
        });
        edge("What is taken during a sweep: not behind its end", () -> {
            SweepHand x = sweeping(store(16), 1);
            due("take(6)", x.take(6), 1);
            duePieces(x, "1:6 7:-10");
        });
        edge("What is taken during a sweep is marked: its rest is not", () -> {
            SweepHand x = sweeping(store(16), 0);
            due("take(6)", x.take(6), 1);
            duePieces(x, "1:6m 7:-10");
            due("count(8)", x.count(8), 1);
        });
        edge("what is taken meanwhile is never lost", () -> {
            SweepHand x = sweeping(giving(store(60, 10, 10, 10, 10, 10, 10), 11, 31, 51), 0);
            due("take(10)", x.take(10), 51);
            due("take(4)", x.take(4), 31);
            due("sweep(1)", x.sweep(1), 1);
            due("take(7)", x.take(7), 1);
            due("sweep(5000)", x.sweep(5000), 3);
            duePieces(x, "1:7 8:-23 31:4 35:-16 51:10");
            due("count(9)", x.count(9), 3);
        });
        edge("a piece that begins at the hand is cut: the first one", () -> {
            SweepHand x = sweeping(store(16), 0);
            due("take(6)", x.take(6), 1);
            due("hand()", x.hand(), 1);
            due("sweep(1)", x.sweep(1), 1);
            due("hand() behind it", x.hand(), 7);
        });
        edge("a piece that begins at the hand is cut: the last one", () -> {
            SweepHand x = sweeping(marking(store(16, 6), 1), 1);
            due("take(9)", x.take(9), 7);
            due("hand()", x.hand(), 7);
            due("sweep(1)", x.sweep(1), 1);
            due("hand() at the crumb", x.hand(), 16);
        });
        edge("a piece that begins at the hand is .. given: the first one", () -> {
            SweepHand x = sweeping(marking(store(16, 6, 10), 1, 7), 0);
            due("give(1)", x.give(1), 6);
            due("hand()", x.hand(), 1);
            duePieces(x, "1:-6 7:10m");
            due("sweep(1)", x.sweep(1), 1);
            due("hand() then", x.hand(), 7);
            due("count(9)", x.count(9), 0);
        });
        edge("a piece that begins at the hand is .. given: the last one", () -> {
            SweepHand x = sweeping(marking(store(16, 6, 10), 1, 7), 1);
            due("give(7)", x.give(7), 10);
            due("hand()", x.hand(), 7);
            due("count(10)", x.count(10), 0);
            due("sweep(5000)", x.sweep(5000), 1);
            duePieces(x, "1:6 7:-10");
            due("count(9)", x.count(9), 0);
        });
        edge("a piece that begins at the hand is .. given: then taken anew", () -> {
            SweepHand x = sweeping(store(16, 6, 10), 0);
            due("give(1)", x.give(1), 6);
            due("take(6)", x.take(6), 1);
            due("hand()", x.hand(), 1);
            duePieces(x, "1:6m 7:10");
        });
    }

    private static void promises1To3() {
        edge("Promise 1: no sweep", () -> {
            SweepHand x = new SweepHand();
            due("hand()", x.hand(), 0);
            due("sweep(5000)", x.sweep(5000), 0);
            x.begin();
            due("hand() then", x.hand(), 1);
        });
        edge("Promise 2: n 16", () -> {
            SweepHand x = new SweepHand();
            due("space(16)", x.space(16), 1024);
            duePieces(x, "1:-16");
        });
        edge("Promise 2: n 16384", () -> {
            SweepHand x = new SweepHand();
            due("space(16384)", x.space(16384), 1024);
            duePieces(x, "1:-16384");
        });
        edge("Promise 2: how many cells there were: as many as now", () -> {
            SweepHand x = store(16);
            due("space(16)", x.space(16), 16);
            due("space(16384)", x.space(16384), 16);
            due("space(16384) again", x.space(16384), 16384);
        });
        edge("Promise 2: no sweep", () -> {
            SweepHand x = sweeping(marking(store(16, 6, 10), 1), 1);
            x.space(16);
            due("hand()", x.hand(), 0);
            due("sweep(1)", x.sweep(1), 0);
            due("take(6)", x.take(6), 1);
            duePieces(x, "1:6 7:-10");
        });
        edge("Promise 2: all that was goes", () -> {
            SweepHand x = sweeping(marking(store(16, 6, 5, 5), 7), 2);
            due("take(7)", x.take(7), 0);
            due("sweep(5000)", x.sweep(5000), 1);
            marking(x, 7);
            dueCounts(x, 11, 0, 1, 2, 0, 6, 1, 16, 1, 2, 1);
            due("space(20)", x.space(20), 16);
            dueCounts(x, 20, 0, 0, 1, 0, 20, 0, 20, 0, 0, 0);
            duePieces(x, "1:-20");
        });
        edge("Promise 3: size 3", () -> duePieces(store(16, 3), "1:3 4:-13"));
        edge("Promise 3: size 2000", () -> duePieces(store(2000, 2000), "1:2000"));
        edge("Promise 3: 0 if no free piece suffices: one cell too few", () -> {
            SweepHand x = store(1999);
            due("take(2000)", x.take(2000), 0);
            due("count(6)", x.count(6), 1);
            duePieces(x, "1:-1999");
        });
        edge("Promise 3: 0 if no free piece suffices: a full store", () -> {
            SweepHand x = store(16, 16);
            due("take(3)", x.take(3), 0);
            due("count(6)", x.count(6), 1);
        });
        edge("Promise 3: 0 if no free piece suffices: a crumb alone", () -> {
            SweepHand x = store(16, 14);
            due("take(3)", x.take(3), 0);
            due("count(6)", x.count(6), 1);
            duePieces(x, "1:14 15:-2");
        });
        edge("Promise 3: 0 if no free piece suffices: neighbours do not count as one", () -> {
            SweepHand x = giving(store(20, 10, 10), 1, 11);
            due("take(11)", x.take(11), 0);
            duePieces(x, "1:-10 11:-10");
        });
        edge("Promise 3: 0 if no free piece suffices: in a sweep", () -> {
            SweepHand x = sweeping(store(16, 16), 0);
            due("take(3)", x.take(3), 0);
            due("hand()", x.hand(), 1);
            due("count(6)", x.count(6), 1);
            duePieces(x, "1:16");
        });
    }

    private static void promises4To7() {
        edge("Promise 4: the only piece, a full store", () -> {
            SweepHand x = store(16, 16);
            due("give(1)", x.give(1), 16);
            duePieces(x, "1:-16");
        });
        edge("Promise 4: the first and the last piece, no neighbours become one", () -> {
            SweepHand x = store(16, 3, 10, 3);
            due("give(14)", x.give(14), 3);
            due("give(1)", x.give(1), 3);
            due("give(4)", x.give(4), 10);
            duePieces(x, "1:-3 4:-10 14:-3");
        });
        edge("Promise 4: (with its mark)", () -> {
            SweepHand x = marking(store(16, 6, 10), 1, 7);
            due("give(1)", x.give(1), 6);
            duePieces(x, "1:-6 7:10m");
            due("count(8)", x.count(8), 1);
            due("take(6)", x.take(6), 1);
            due("marked(1)", x.marked(1), false);
            due("mark(1)", x.mark(1), true);
        });
        edge("Promise 4: a marked piece behind the hand", () -> {
            SweepHand x = sweeping(marking(store(16, 6, 10), 1, 7), 0);
            due("give(7)", x.give(7), 10);
            due("sweep(5000)", x.sweep(5000), 2);
            duePieces(x, "1:6 7:-10");
            due("count(9)", x.count(9), 0);
        });
        edge("Promise 5: true; false if it was already: the first and the last piece", () -> {
            SweepHand x = store(16, 6, 7, 3);
            due("mark(1)", x.mark(1), true);
            due("mark(14)", x.mark(14), true);
            due("mark(1) again", x.mark(1), false);
            due("mark(14) again", x.mark(14), false);
            duePieces(x, "1:6m 7:7 14:3m");
        });
        edge("Promise 5: true once more when the mark went", () -> {
            SweepHand x = sweeping(marking(store(16, 6), 1), 5000);
            due("mark(1) behind a sweep", x.mark(1), true);
            x.unmark();
            due("mark(1) behind unmark()", x.mark(1), true);
        });
        edge("Promise 6: how many: none", () -> {
            due("unmark() of a new object", new SweepHand().unmark(), 0);
            due("unmark() of a full store", store(16, 6, 10).unmark(), 0);
        });
        edge("Promise 6: All marks go: how many: all pieces", () -> {
            SweepHand x = marking(store(16, 3, 3, 10), 1, 4, 7);
            due("unmark()", x.unmark(), 3);
            duePieces(x, "1:3 4:3 7:10");
            due("unmark() again", x.unmark(), 0);
        });
        edge("Promise 6: All marks go: then nothing is kept", () -> {
            SweepHand x = marking(store(16, 3, 3, 10), 1, 7);
            x.unmark();
            sweeping(x, 5000);
            duePieces(x, "1:-16");
        });
        edge("Promise 7: A sweep begins: behind the end of one", () -> {
            SweepHand x = sweeping(marking(store(16, 16), 1), 1);
            x.begin();
            due("hand()", x.hand(), 1);
            due("count(10)", x.count(10), 1);
            due("sweep(1)", x.sweep(1), 1);
            dueCounts(x, 16, 0, 0, 1, 0, 16, 0, 16, 0, 1, 2);
        });
        edge("Promise 7: A sweep begins: no piece changes", () -> {
            SweepHand x = marking(store(16, 6, 8), 7);
            x.begin();
            duePieces(x, "1:6 7:8m 15:-2");
        });
    }

    private static void promise8() {
        edge("Promise 8: n 0", () -> {
            SweepHand x = sweeping(store(16, 6), 0);
            due("sweep(0)", x.sweep(0), 0);
            due("hand()", x.hand(), 1);
            duePieces(x, "1:6 7:-10");
        });
        edge("Promise 8: n 5000", () -> {
            SweepHand x = marking(store(16, 6), 1);
            x.begin();
            due("sweep(5000)", x.sweep(5000), 2);
            due("hand()", x.hand(), 0);
        });
        edge("Promise 8: At most so many steps: one fewer than there are", () -> {
            SweepHand x = marking(store(16, 3, 3, 3, 7), 1, 4, 7, 10);
            x.begin();
            due("sweep(3)", x.sweep(3), 3);
            due("hand()", x.hand(), 10);
            duePieces(x, "1:3 4:3 7:3 10:7m");
        });
        edge("Promise 8: At most so many steps: as many as there are", () -> {
            SweepHand x = marking(store(16, 3, 3, 3, 7), 1, 4, 7, 10);
            x.begin();
            due("sweep(4)", x.sweep(4), 4);
            due("hand()", x.hand(), 0);
        });
        edge("Promise 8: how many there were: fewer than n", () -> {
            SweepHand x = marking(store(16, 3, 3, 3, 7), 1, 4, 7, 10);
            x.begin();
            due("sweep(5)", x.sweep(5), 4);
            due("count(10)", x.count(10), 1);
        });
        edge("Promise 8: how many there were: as many as 512 calls can bring about", () -> {
            SweepHand x = store(16384);
            for (int a = 1; a <= 250 * 3; a += 3) {
                x.take(3);
                x.mark(a);
            }
            x.begin();
            due("sweep(5000)", x.sweep(5000), 251);
            due("count(2)", x.count(2), 250);
            due("count(8)", x.count(8), 0);
        });
        edge("Promise 8: (0 without a sweep)", () -> {
            SweepHand x = marking(store(16, 6, 5), 7);
            due("sweep(0)", x.sweep(0), 0);
            due("sweep(1)", x.sweep(1), 0);
            due("sweep(5000)", x.sweep(5000), 0);
            duePieces(x, "1:6 7:5m 12:-5");
            due("count(10)", x.count(10), 0);
        });
        edge("Promise 8: (0 without a sweep): behind the end of one", () -> {
            SweepHand x = sweeping(marking(store(16, 6), 1), 5000);
            due("sweep(1)", x.sweep(1), 0);
            duePieces(x, "1:6 7:-10");
            due("count(10)", x.count(10), 1);
        });
    }

    private static void promises9To13() {
        edge("Promise 9: 0 without a sweep", () -> {
            due("hand() of a new object", new SweepHand().hand(), 0);
            due("hand() of a full store", store(16, 16).hand(), 0);
        });
        edge("Promise 9: Where the hand is: the first, the last, behind all", () -> {
            SweepHand x = sweeping(marking(store(16, 6, 7, 3), 1, 7, 14), 0);
            due("hand()", x.hand(), 1);
            x.sweep(2);
            due("hand() then", x.hand(), 14);
            x.sweep(1);
            due("hand() at last", x.hand(), 0);
        });
        edge("Promise 10: 0 if none begins there", () -> {
            SweepHand x = store(16, 6, 8);
            int[] nowhere = {Integer.MIN_VALUE, -16, -1, 0, 2, 6, 8, 14, 16, 17, 1024, Integer.MAX_VALUE};
            for (int a : nowhere) {
                due("piece(" + a + ")", x.piece(a), 0);
            }
        });
        edge("Promise 10: below 0 if it is free: the first and the last piece", () -> {
            SweepHand x = giving(store(16, 6, 9), 1);
            due("piece(1)", x.piece(1), -6);
            due("piece(7)", x.piece(7), 9);
            due("piece(16)", x.piece(16), -1);
        });
        edge("Promise 11: Whether a marked piece begins at a: none begins there", () -> {
            SweepHand x = marking(store(16, 6, 8), 1, 7);
            int[] nowhere = {Integer.MIN_VALUE, -1, 0, 2, 6, 8, 14, 15, 16, 17, Integer.MAX_VALUE};
            for (int a : nowhere) {
                due("marked(" + a + ")", x.marked(a), false);
            }
            due("marked(1)", x.marked(1), true);
            due("marked(7)", x.marked(7), true);
        });
        edge("Promise 12: 5 cells of the greatest free piece (0: none)", () -> {
            due("full", store(16, 16).count(5), 0);
            due("one free piece", store(16).count(5), 16);
            due("the first", giving(store(30, 10, 11, 9), 1, 22).count(5), 10);
            due("the last", giving(store(30, 10, 9, 11), 1, 20).count(5), 11);
        });
        edge("Promise 12: 6 how often take() found none", () -> {
            SweepHand x = store(16, 16);
            x.take(3);
            x.take(2000);
            due("count(6)", x.count(6), 2);
            x.give(1);
            x.take(16);
            due("count(6) then", x.count(6), 2);
        });
        edge("Promise 12: 8 marked pieces: those marked at once too", () -> {
            SweepHand x = sweeping(marking(store(16, 3, 3), 4), 0);
            x.take(10);
            due("count(8)", x.count(8), 2);
            x.sweep(2);
            due("count(8) then", x.count(8), 1);
        });
        edge("Promise 12: 9 pieces that were swept, 10 sweeps that ended: of several sweeps", () -> {
            SweepHand x = store(16, 6, 10);
            sweeping(x, 1);
            x.take(16);
            sweeping(x, 1);
            sweeping(x, 1);
            dueCounts(x, 16, 0, 0, 1, 0, 16, 0, 16, 0, 3, 3);
        });
        edge("Promise 12: 10 sweeps that ended: not one that space() broke off", () -> {
            SweepHand x = sweeping(store(16, 6), 0);
            x.space(16);
            due("count(10)", x.count(10), 0);
        });
        edge("Promise 12: since the latest space(): the constructor's cells count too", () -> {
            SweepHand x = new SweepHand();
            x.take(1025);
            x.take(1000);
            sweeping(x, 1);
            dueCounts(x, 1024, 0, 0, 1, 0, 1024, 1, 1024, 0, 1, 1);
        });
        edge("Promise 13: how many things are not as they must be: none, at every place of the hand", () -> {
            SweepHand x = marking(giving(store(40, 6, 5, 4, 8, 12), 7, 16), 1, 12);
            due("faults()", x.faults(), 0);
            x.begin();
            for (int i = 0; x.hand() != 0 && i < 20; i++) {
                due("faults() with the hand at " + x.hand(), x.faults(), 0);
                x.sweep(1);
            }
            due("faults() behind the end", x.faults(), 0);
        });
    }

    public static void main(String[] args) {
        terms();
        whatIsTaken();
        handAndEnd();
        step();
        takenMeanwhile();
        promises1To3();
        promises4To7();
        promise8();
        promises9To13();
        System.out.println(tests + " edges: " + (wrong == 0 ? "all answers are as due" : wrong + " answers are not"));
        if (wrong != 0) {
            System.exit(1);
        }
    }
}
