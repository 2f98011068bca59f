import java.util.NoSuchElementException;
import java.util.Random;

/**
 * Compares SweepHand with a plain model over many runs of calls drawn from fixed seeds. The model
 * holds its state by address and not as a chain, so that one mistake is not likely made twice.
 */
public final class SweepHandModel {
    private static final int RUNS = 4000;
    private static final int CALLS = 512;
    private static final String[] NAMES = {"space", "take", "give", "mark", "unmark", "begin", "sweep",
        "hand", "piece", "marked", "count", "faults"};
    private static final int[] ODD = {0, -1, 1, 2, 3, 15, 16, 2000, 2001, 5000, 5001, 16384, 16385,
        Integer.MIN_VALUE, Integer.MAX_VALUE};

    /** The document's words, cell by cell: kind[a] is 0 where no piece begins, 1 free, 2 used. */
    private static final class Model {
        final int[] kind = new int[16386];
        final boolean[] mark = new boolean[16386];
        final long[] time = new long[16386];
        int cells = 1024;
        int hand;
        long now;
        int vain;
        int swept;
        int ended;

        Model() {
            reset(1024);
        }

        void reset(int n) {
            for (int a = 0; a < kind.length; a++) {
                kind[a] = 0;
                mark[a] = false;
            }
            cells = n;
            kind[1] = 1;
            hand = 0;
            time[1] = ++now;
            vain = 0;
            swept = 0;
            ended = 0;
        }

        int endOf(int a) {
            int e = a + 1;
            while (e <= cells && kind[e] == 0) {
                e++;
            }
            return e;
        }

        int sizeOf(int a) {
            return endOf(a) - a;
        }

        int kindAt(int a) {
            return a >= 1 && a <= cells ? kind[a] : 0;
        }

        long call(int what, int n) {
            switch (what) {
                case 0: return space(n);
                case 1: return take(n);
                case 2: return give(n);
                case 3: return mark(n);
                case 4: return unmark();
                case 5: return begin();
                case 6: return sweep(n);
                case 7: return hand;
                case 8: return kindAt(n) == 0 ? 0 : kindAt(n) == 2 ? sizeOf(n) : -sizeOf(n);
                case 9: return kindAt(n) == 2 && mark[n] ? 1 : 0;
                case 10: return count(n);
                default: return 0;
            }
        }

        long space(int n) {
            if (n < 16 || n > 16384) throw new IllegalArgumentException();
            int before = cells;
            reset(n);
            return before;
        }

        long take(int size) {
            if (size < 3 || size > 2000) throw new IllegalArgumentException();
            int best = 0;
            for (int a = 1; a <= cells; a = endOf(a)) {
                int s = sizeOf(a);
                if (kind[a] != 1 || s <= 2 || s < size) continue;
                if (best == 0 || s < sizeOf(best) || s == sizeOf(best) && time[a] > time[best]) best = a;
            }
            if (best == 0) {
                vain++;
                return 0;
            }
            if (sizeOf(best) > size) {
                kind[best + size] = 1;
                mark[best + size] = false;
                time[best + size] = ++now;
            }
            kind[best] = 2;
            mark[best] = hand != 0 && best >= hand;
            return best;
        }

        long give(int a) {
            if (kindAt(a) != 2) throw new NoSuchElementException();
            kind[a] = 1;
            mark[a] = false;
            time[a] = ++now;
            return sizeOf(a);
        }

        long mark(int a) {
            if (kindAt(a) != 2) throw new NoSuchElementException();
            if (hand != 0) throw new IllegalStateException();
            boolean was = mark[a];
            mark[a] = true;
            return was ? 0 : 1;
        }

        long unmark() {
            if (hand != 0) throw new IllegalStateException();
            int n = 0;
            for (int a = 1; a <= cells; a++) {
                if (mark[a]) n++;
                mark[a] = false;
            }
            return n;
        }

        long begin() {
            if (hand != 0) throw new IllegalStateException();
            hand = 1;
            return 0;
        }

        long sweep(int n) {
            if (n < 0 || n > 5000) throw new IllegalArgumentException();
            int steps = 0;
            for (; steps < n && hand != 0; steps++) {
                step();
                if (hand > cells) {
                    hand = 0;
                    ended++;
                }
            }
            return steps;
        }

        void step() {
            int end = endOf(hand);
            if (mark[hand]) {
                mark[hand] = false;
                hand = end;
                return;
            }
            int pieces = 1;
            int used = kind[hand] == 2 ? 1 : 0;
            while (end <= cells && !mark[end]) {
                pieces++;
                used += kind[end] == 2 ? 1 : 0;
                int next = endOf(end);
                kind[end] = 0;
                end = next;
            }
            if (pieces > 1 || used > 0) {
                kind[hand] = 1;
                time[hand] = ++now;
            }
            swept += used;
            hand = end;
        }

        long count(int what) {
            if (what < 0 || what > 10) throw new IllegalArgumentException();
            int[] c = new int[11];
            for (int a = 1; a <= cells; a = endOf(a)) {
                int s = sizeOf(a);
                if (kind[a] == 2) {
                    c[2]++;
                    if (mark[a]) c[8]++;
                    continue;
                }
                c[0] += s;
                c[1] += s <= 2 ? s : 0;
                c[s <= 2 ? 4 : 3]++;
                c[5] = Math.max(c[5], s);
            }
            c[6] = vain;
            c[7] = cells;
            c[9] = swept;
            c[10] = ended;
            return c[what];
        }
    }

    private static long ask(SweepHand x, int what, int n) {
        switch (what) {
            case 0: return x.space(n);
            case 1: return x.take(n);
            case 2: return x.give(n);
            case 3: return x.mark(n) ? 1 : 0;
            case 4: return x.unmark();
            case 5: x.begin(); return 0;
            case 6: return x.sweep(n);
            case 7: return x.hand();
            case 8: return x.piece(n);
            case 9: return x.marked(n) ? 1 : 0;
            case 10: return x.count(n);
            default: return x.faults();
        }
    }

    private static String answer(SweepHand x, Model m, int what, int n) {
        try {
            return String.valueOf(x != null ? ask(x, what, n) : m.call(what, n));
        } catch (RuntimeException e) {
            return "throws." + e.getClass().getName();
        }
    }

    /** A weight for each call, so that stores fill, are marked and are swept while they change. */
    private static int drawCall(Random r) {
        int[] weights = {0, 30, 14, 18, 1, 4, 10, 3, 6, 4, 9, 2};
        int at = r.nextInt(101);
        int what = 0;
        while (what < weights.length - 1 && at >= weights[what]) {
            at -= weights[what];
            what++;
        }
        return what;
    }

    private static int drawPiece(Random r, Model m) {
        int a = 1 + r.nextInt(m.cells);
        while (m.kind[a] == 0) {
            a--;
        }
        return a;
    }

    private static int drawNumber(Random r, Model m, int what, int mostTaken) {
        if (r.nextInt(25) == 0) {
            return ODD[r.nextInt(ODD.length)];
        }
        switch (what) {
            case 1: return 3 + r.nextInt(mostTaken);
            case 6: return r.nextInt(4) == 0 ? 5000 : r.nextInt(4);
            case 10: return r.nextInt(11);
            default: return r.nextInt(8) == 0 ? r.nextInt(m.cells + 2) : drawPiece(r, m);
        }
    }

    private static int cellsOfRun(Random r, int run) {
        if (run % 40 == 0) return 16384;
        return run % 3 == 0 ? 16 + r.nextInt(30) : 16 + r.nextInt(400);
    }

    private static boolean runIsRight(int run) {
        Random r = new Random(run);
        SweepHand x = new SweepHand();
        Model m = new Model();
        int cells = cellsOfRun(r, run);
        int mostTaken = cells == 16384 ? 1998 : 1 + r.nextInt(12);
        for (int i = 0; i < CALLS; i++) {
            int what = i == 0 || r.nextInt(300) == 0 ? 0 : drawCall(r);
            int n = what == 0 ? (i == 0 ? cells : 16 + r.nextInt(100)) : drawNumber(r, m, what, mostTaken);
            String got = answer(x, null, what, n);
            String want = answer(null, m, what, n);
            if (!got.equals(want)) {
                System.out.println("run " + run + ", call " + i + ": " + NAMES[what] + "(" + n + ") answered "
                    + got + ", due is " + want);
                return false;
            }
        }
        return true;
    }

    /** What is answered behind the 512th call is free, but no call may fail by itself. */
    private static boolean goesOnBehindTheLimit() {
        Random r = new Random(7);
        SweepHand x = new SweepHand();
        x.space(16384);
        for (int i = 0; i < 20000; i++) {
            int what = i < 6000 ? 1 : r.nextInt(NAMES.length);
            int n = i < 6000 ? 3 : r.nextInt(3) == 0 ? ODD[r.nextInt(ODD.length)] : r.nextInt(16400);
            String got = answer(x, null, what, n);
            boolean isDocumented = !got.startsWith("throws.")
                || got.equals("throws.java.lang.IllegalArgumentException")
                || got.equals("throws.java.lang.IllegalStateException")
                || got.equals("throws.java.util.NoSuchElementException");
            if (!isDocumented) {
                System.out.println("behind the limit: " + NAMES[what] + "(" + n + ") answered " + got);
                return false;
            }
        }
        return true;
    }

    public static void main(String[] args) {
        int wrong = goesOnBehindTheLimit() ? 0 : 1;
        for (int run = 0; run < RUNS && wrong < 10; run++) {
            wrong += runIsRight(run) ? 0 : 1;
        }
        System.out.println(wrong == 0 ? "all runs are as the model's" : wrong + " runs are not as the model's");
        if (wrong != 0) {
            System.exit(1);
        }
    }
}
