import java.lang.reflect.Constructor;
import java.lang.reflect.Executable;
import java.lang.reflect.Field;
import java.lang.reflect.Method;
import java.lang.reflect.Modifier;
import java.util.Arrays;
import java.util.Set;
import java.util.TreeSet;

/** The class has the document's face and no other member that another class could see. */
public final class SweepHandFace {
    private static final String[] FACE = {
        "public SweepHand()",
        "public int SweepHand.space(int) throws java.lang.IllegalArgumentException",
        "public int SweepHand.take(int) throws java.lang.IllegalArgumentException",
        "public int SweepHand.give(int) throws java.util.NoSuchElementException",
        "public boolean SweepHand.mark(int) throws java.util.NoSuchElementException,java.lang.IllegalStateException",
        "public int SweepHand.unmark() throws java.lang.IllegalStateException",
        "public void SweepHand.begin() throws java.lang.IllegalStateException",
        "public int SweepHand.sweep(int) throws java.lang.IllegalArgumentException",
        "public int SweepHand.hand()",
        "public int SweepHand.piece(int)",
        "public boolean SweepHand.marked(int)",
        "public int SweepHand.count(int) throws java.lang.IllegalArgumentException",
        "public int SweepHand.faults()",
    };

    private static void addIfSeen(Set<String> seen, Executable member) {
        if (!Modifier.isPrivate(member.getModifiers()) && !member.isSynthetic()) {
            seen.add(member.toString());
        }
    }

    private static Set<String> membersSeen() {
        Set<String> seen = new TreeSet<>();
        for (Constructor<?> constructor : SweepHand.class.getDeclaredConstructors()) {
            addIfSeen(seen, constructor);
        }
        for (Method method : SweepHand.class.getDeclaredMethods()) {
            addIfSeen(seen, method);
        }
        for (Field field : SweepHand.class.getDeclaredFields()) {
            if (!Modifier.isPrivate(field.getModifiers()) && !field.isSynthetic()) {
                seen.add(field.toString());
            }
        }
        return seen;
    }

    private static Set<String> privateNamesOfTheFace() {
        Set<String> faceNames = new TreeSet<>();
        Set<String> both = new TreeSet<>();
        for (Method method : SweepHand.class.getDeclaredMethods()) {
            if (Modifier.isPublic(method.getModifiers())) {
                faceNames.add(method.getName());
            }
        }
        for (Method method : SweepHand.class.getDeclaredMethods()) {
            if (Modifier.isPrivate(method.getModifiers()) && faceNames.contains(method.getName())) {
                both.add(method.toString());
            }
        }
        return both;
    }

    public static void main(String[] args) {
        boolean isRight = true;
        Set<String> due = new TreeSet<>(Arrays.asList(FACE));
        Set<String> seen = membersSeen();
        if (!seen.equals(due)) {
            isRight = false;
            System.out.println("the face is " + seen + ", due is " + due);
        }
        int modifiers = SweepHand.class.getModifiers();
        if (!Modifier.isPublic(modifiers) || !Modifier.isFinal(modifiers)) {
            isRight = false;
            System.out.println("the class is not public and final");
        }
        if (!privateNamesOfTheFace().isEmpty()) {
            isRight = false;
            System.out.println("private, with a name of the face: " + privateNamesOfTheFace());
        }
        System.out.println(isRight ? "the face is as due" : "the face is not as due");
        if (!isRight) {
            System.exit(1);
        }
    }
}
