import java.lang.reflect.Constructor;
import java.lang.reflect.Executable;
import java.lang.reflect.Field;
import java.lang.reflect.Member;
import java.lang.reflect.Method;
import java.lang.reflect.Modifier;
import java.util.Arrays;
import java.util.List;
import java.util.Set;
import java.util.TreeSet;

/** The class shows the document's face and no more, and keeps to rules 1 and 5 of LANGUAGE.md. */
public final class FaceTest {
    private static final List<String> FACE = List.of(
        "public new()",
        "public int setArmature(int, int, int)", "public int setWinding(int, int, boolean)",
        "public int setChording(int)", "public int setOpen(int, boolean)",
        "public int coilCount()", "public int slotPitch()", "public int endBar(int)", "public int coilEndingAt(int)",
        "public int upperSlot(int)", "public int lowerSlot(int)", "public int openCoilsIn(int)",
        "public int circuitCount()", "public int circuitOf(int)", "public int coilAt(int, int)",
        "public int closedCircuits()",
        "public int brushBar(int)", "public int brushOn(int)", "public int pathLength(int)", "public int pathEnd(int)",
        "public int coilVoltage(int, int)", "public int pathVoltage(int, int)",
        "public int isBalanced(int)", "public int balancedTurns()", "public long resistance()",
        "public int equalizerBar(int)", "public long digest()",
        "public static final int LAP = 0", "public static final int WAVE = 1",
        "public static final int OUT_OF_RANGE = -1001", "public static final int NO_SUCH_ITEM = -1002",
        "public static final int NOT_POSSIBLE = -1003", "public static final int NONE = -1004",
        "public static final int BROKEN = -1005");

    private static final Set<Class<?>> STATIC_TYPES =
        Set.of(int.class, long.class, boolean.class, char.class, String.class);

    public static void main(String[] args) throws IllegalAccessException {
        Class<?> face = ArmatureWinding.class;
        Due.due("public final class", face.getModifiers(), Modifier.PUBLIC | Modifier.FINAL);
        Due.due("superclass is Object", face.getSuperclass() == Object.class ? 1 : 0, 1);
        Due.due("interfaces", face.getInterfaces().length, 0);
        Due.dueText("the package", face.getPackageName(), "");
        Due.dueText("the face", lines(shownMembers(face)), lines(FACE));
        staticFieldsAreConstants(face);
        privateNamesAreNotPublicOnes(face);
        Due.end();
    }

    /** With the modifiers, since a member without "public" would serve all the other tests as well. */
    private static List<String> shownMembers(Class<?> face) throws IllegalAccessException {
        TreeSet<String> shown = new TreeSet<>();
        for (Constructor<?> c : face.getDeclaredConstructors()) {
            if (isShown(c)) {
                shown.add(modifiers(c) + "new(" + types(c.getParameterTypes()) + ")" + thrown(c));
            }
        }
        for (Method m : face.getDeclaredMethods()) {
            if (isShown(m)) {
                shown.add(modifiers(m) + m.getReturnType().getName() + " " + m.getName()
                    + "(" + types(m.getParameterTypes()) + ")" + thrown(m));
            }
        }
        for (Field f : face.getDeclaredFields()) {
            if (isShown(f)) {
                String value = Modifier.isStatic(f.getModifiers()) ? f.get(null).toString() : "of each object";
                shown.add(modifiers(f) + f.getType().getName() + " " + f.getName() + " = " + value);
            }
        }
        return List.copyOf(shown);
    }

    private static String modifiers(Member member) {
        return member.getModifiers() == 0 ? "" : Modifier.toString(member.getModifiers()) + " ";
    }

    private static String thrown(Executable called) {
        return called.getExceptionTypes().length == 0 ? "" : " throws " + types(called.getExceptionTypes());
    }

    private static boolean isShown(Member member) {
        return !Modifier.isPrivate(member.getModifiers());
    }

    private static String types(Class<?>[] types) {
        StringBuilder text = new StringBuilder();
        for (Class<?> type : types) {
            text.append(text.length() == 0 ? "" : ", ").append(type.getName());
        }
        return text.toString();
    }

    private static String lines(List<String> items) {
        return String.join("\n", new TreeSet<>(items));
    }

    private static void staticFieldsAreConstants(Class<?> face) {
        for (Field f : face.getDeclaredFields()) {
            if (Modifier.isStatic(f.getModifiers())) {
                boolean fits = Modifier.isFinal(f.getModifiers()) && STATIC_TYPES.contains(f.getType());
                Due.due("static field " + f.getName() + " is a constant", fits ? 1 : 0, 1);
            }
        }
    }

    private static void privateNamesAreNotPublicOnes(Class<?> face) {
        TreeSet<String> shown = new TreeSet<>();
        for (Method m : face.getDeclaredMethods()) {
            if (isShown(m)) {
                shown.add(m.getName());
            }
        }
        for (Method m : face.getDeclaredMethods()) {
            if (!isShown(m)) {
                Due.due("name of " + m.getName() + " is public too", shown.contains(m.getName()) ? 1 : 0, 0);
            }
        }
        Due.due("parameters over seven", Arrays.stream(face.getDeclaredMethods())
            .filter(m -> m.getParameterCount() > 7).count(), 0);
    }
}
