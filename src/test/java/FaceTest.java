import java.lang.reflect.Constructor;
import java.lang.reflect.Field;
import java.lang.reflect.Member;
import java.lang.reflect.Method;
import java.lang.reflect.Modifier;
import java.util.Arrays;
import java.util.List;
import java.util.Set;
import java.util.TreeSet;

/** The class shows the document's face and no more, and keeps to rules 1 and 5 of LANGUAGE.md. */
public final class FaceTest {
    private static final List<String> FACE = List.of(
        "new()",
        "int setArmature(int, int, int)", "int setWinding(int, int, boolean)",
        "int setChording(int)", "int setOpen(int, boolean)",
        "int coilCount()", "int slotPitch()", "int endBar(int)", "int coilEndingAt(int)",
        "int upperSlot(int)", "int lowerSlot(int)", "int openCoilsIn(int)",
        "int circuitCount()", "int circuitOf(int)", "int coilAt(int, int)", "int closedCircuits()",
        "int brushBar(int)", "int brushOn(int)", "int pathLength(int)", "int pathEnd(int)",
        "int coilVoltage(int, int)", "int pathVoltage(int, int)",
        "int isBalanced(int)", "int balancedTurns()", "long resistance()", "int equalizerBar(int)",
        "long digest()",
        "LAP = 0", "WAVE = 1", "OUT_OF_RANGE = -1001", "NO_SUCH_ITEM = -1002",
        "NOT_POSSIBLE = -1003", "NONE = -1004", "BROKEN = -1005");

    private static final Set<Class<?>> STATIC_TYPES =
        Set.of(int.class, long.class, boolean.class, char.class, String.class);

    public static void main(String[] args) throws IllegalAccessException {
        Class<?> face = ArmatureWinding.class;
        Due.due("public final class", face.getModifiers(), Modifier.PUBLIC | Modifier.FINAL);
        Due.due("superclass is Object", face.getSuperclass() == Object.class ? 1 : 0, 1);
        Due.due("interfaces", face.getInterfaces().length, 0);
        Due.dueText("the face", lines(shownMembers(face)), lines(FACE));
        staticFieldsAreConstants(face);
        privateNamesAreNotPublicOnes(face);
        Due.end();
    }

    private static List<String> shownMembers(Class<?> face) throws IllegalAccessException {
        TreeSet<String> shown = new TreeSet<>();
        for (Constructor<?> c : face.getDeclaredConstructors()) {
            if (isShown(c)) {
                shown.add("new(" + types(c.getParameterTypes()) + ")");
            }
        }
        for (Method m : face.getDeclaredMethods()) {
            if (isShown(m)) {
                String kind = Modifier.isStatic(m.getModifiers()) ? "static " : "";
                shown.add(kind + m.getReturnType().getName() + " " + m.getName()
                    + "(" + types(m.getParameterTypes()) + ")");
            }
        }
        for (Field f : face.getDeclaredFields()) {
            if (isShown(f)) {
                boolean constant = f.getType() == int.class
                    && f.getModifiers() == (Modifier.PUBLIC | Modifier.STATIC | Modifier.FINAL);
                shown.add(f.getName() + (constant ? " = " + f.getInt(null) : " is no public constant int"));
            }
        }
        return List.copyOf(shown);
    }

    private static boolean isShown(Member member) {
        return !Modifier.isPrivate(member.getModifiers());
    }

    private static String types(Class<?>[] types) {
        StringBuilder text = new StringBuilder();
        for (Class<?> type : types) {
            text.append(text.length() == 0 ? "" : ", ").append(type.getName());
        }
        return text.toString();
    }

    private static String lines(List<String> items) {
        return String.join("\n", new TreeSet<>(items));
    }

    private static void staticFieldsAreConstants(Class<?> face) {
        for (Field f : face.getDeclaredFields()) {
            if (Modifier.isStatic(f.getModifiers())) {
                boolean fits = Modifier.isFinal(f.getModifiers()) && STATIC_TYPES.contains(f.getType());
                Due.due("static field " + f.getName() + " is a constant", fits ? 1 : 0, 1);
            }
        }
    }

    private static void privateNamesAreNotPublicOnes(Class<?> face) {
        TreeSet<String> shown = new TreeSet<>();
        for (Method m : face.getDeclaredMethods()) {
            if (isShown(m)) {
                shown.add(m.getName());
            }
        }
        for (Method m : face.getDeclaredMethods()) {
            if (!isShown(m)) {
                Due.due("name of " + m.getName() + " is public too", shown.contains(m.getName()) ? 1 : 0, 0);
            }
        }
        Due.due("parameters over seven", Arrays.stream(face.getDeclaredMethods())
            .filter(m -> m.getParameterCount() > 7).count(), 0);
    }
}
