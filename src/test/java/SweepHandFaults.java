import java.lang.reflect.Field;

/**
 * faults() answers 0 in every state that calls can reach, so only damage done from outside shows
 * that it looks at all: each kind of damage must be told.
 */
public final class SweepHandFaults {
    private static int wrong = 0;

    private static Field field(Object of, String name) throws ReflectiveOperationException {
        Field field = of.getClass().getDeclaredField(name);
        field.setAccessible(true);
        return field;
    }

    private static Object pieceOf(SweepHand x, int nth) throws ReflectiveOperationException {
        Object piece = field(x, "first").get(x);
        for (int i = 0; i < nth; i++) {
            piece = field(piece, "next").get(piece);
        }
        return piece;
    }

    /** 1: 10 used, 11: 10 free, 21: 10 used and marked, 31: 10 free; the hand is at 11. */
    private static SweepHand sound() {
        SweepHand x = new SweepHand();
        x.space(40);
        x.take(10);
        x.take(10);
        x.take(10);
        x.mark(1);
        x.mark(21);
        x.give(11);
        x.begin();
        x.sweep(1);
        return x;
    }

    private static void dueFaults(String what, SweepHand x, int want) {
        int got = x.faults();
        if (got != want) {
            wrong++;
            System.out.println(what + ": faults() answered " + got + ", due is " + want);
        }
    }

    private static void damagePiece(String what, int nth, String name, Object value, int want)
            throws ReflectiveOperationException {
        SweepHand x = sound();
        Object piece = pieceOf(x, nth);
        field(piece, name).set(piece, value);
        dueFaults(what, x, want);
    }

    private static void damageStore(String what, String name, Object value, int want)
            throws ReflectiveOperationException {
        SweepHand x = sound();
        field(x, name).set(x, value);
        dueFaults(what, x, want);
    }

    public static void main(String[] args) throws ReflectiveOperationException {
        dueFaults("sound", sound(), 0);
        damagePiece("a gap between pieces", 0, "size", 9, 1);
        damagePiece("pieces over one another", 1, "size", 11, 1);
        damagePiece("a piece without cells, and a gap", 1, "size", 0, 2);
        damagePiece("the last piece ends too early", 3, "size", 9, 1);
        damagePiece("the chain ends too early", 1, "next", null, 1);
        damagePiece("a marked free piece", 3, "marked", true, 1);
        damagePiece("a mark before the hand", 0, "marked", true, 1);
        damagePiece("a free piece that never came to be free", 1, "freedAt", 0L, 1);
        damagePiece("a free piece that comes to be free later", 1, "freedAt", 99L, 1);
        damageStore("fewer cells than pieces have", "cells", 39, 1);
        // The foreign piece is never met, so the one mark that is there stands before the hand.
        damageStore("a hand outside the store", "atHand", pieceOf(sound(), 1), 2);
        damageStore("no pieces, and so no place for the hand", "first", null, 2);
        System.out.println(wrong == 0 ? "all damage is told" : wrong + " answers are not as due");
        if (wrong != 0) {
            System.exit(1);
        }
    }
}
