/**
 * "Nothing is promised beyond the answers and state changes described above": in a run of 512 calls on
 * one object, changes and questions in any order, each call answers what the state asks for, and no
 * question and no refused call is remembered.
 */
public final class MixedRunTest {
    private static final int RUNS = 2000;
    private static final int WRONG_IN = 24;
    private static final int[] EXTREMES = {Made.MIN, -1000, 72, 512, Made.MAX};
    private static final String[] CHANGES = {"setArmature", "setWinding", "setWinding", "setChording", "setOpen", "setOpen", "setOpen"};
    private static final String[] QUESTIONS = {
        "coilCount", "slotPitch", "endBar", "coilEndingAt", "upperSlot", "lowerSlot", "openCoilsIn", "circuitCount",
        "circuitOf", "coilAt", "closedCircuits", "brushBar", "brushOn", "pathLength", "pathEnd", "coilVoltage",
        "pathVoltage", "isBalanced", "balancedTurns", "resistance", "equalizerBar", "digest",
    };

    private static long seed = 1;

    public static void main(String[] args) {
        Due.begin("mixed runs");
        for (int run = 1; run <= RUNS; run++) {
            // Runs with few changes, and runs with little else.
            int changesIn = 2 + run % 15;
            Compared x = new Compared("run " + run);
            for (int call = 1; call < Compared.MOST_CALLS; call++) {
                String[] names = pick(1, changesIn) == 1 ? CHANGES : QUESTIONS;
                String name = names[pick(0, names.length - 1)];
                x.ask(name, arguments(name, x.model()));
            }
            x.ask("digest");
        }
        Due.end();
    }

    private static int[] arguments(String name, Model m) {
        return switch (name) {
            case "setArmature" -> armature();
            case "setWinding" -> new int[] {near(0, 1), near(1, 3), pick(0, 1)};
            case "setChording" -> new int[] {near(0, 5)};
            // More coils are closed than open, so that some paths stay whole.
            case "setOpen" -> new int[] {near(0, m.coils() - 1), pick(1, 3) == 1 ? 1 : 0};
            case "endBar", "coilEndingAt", "upperSlot", "lowerSlot", "circuitOf", "brushOn", "equalizerBar" ->
                new int[] {near(0, m.coils() - 1)};
            case "openCoilsIn" -> new int[] {near(0, m.slots() - 1)};
            case "coilAt" -> new int[] {near(0, m.circuits() - 1), near(0, m.coils() / m.circuits() - 1)};
            case "brushBar", "pathLength", "pathEnd" -> new int[] {near(0, m.poles() - 1)};
            case "coilVoltage" -> new int[] {near(0, m.coils() - 1), near(0, 100)};
            case "pathVoltage" -> new int[] {near(0, m.poles() - 1), near(0, 100)};
            case "isBalanced" -> new int[] {near(0, 100)};
            default -> new int[0];
        };
    }

    private static int[] armature() {
        int poles = pick(1, WRONG_IN) == 1 ? pick(-1, 10) : 2 * pick(1, 4);
        return new int[] {poles, near(poles, pick(1, 2) == 1 ? 24 : Math.max(poles, 12)), near(1, 3)};
    }

    /** Most often a number in the range, now and then its end, a number beside it or one far away. */
    private static int near(int low, int high) {
        return switch (pick(1, WRONG_IN)) {
            case 1 -> low - 1;
            case 2 -> high + 1;
            case 3 -> EXTREMES[pick(0, EXTREMES.length - 1)];
            case 4, 5 -> low;
            case 6, 7 -> high;
            default -> pick(low, high);
        };
    }

    /** The next number of a row that is the same each time. */
    private static int pick(int low, int high) {
        seed = seed * 6364136223846793005L + 1442695040888963407L;
        return high <= low ? low : low + (int) ((seed >>> 33) % (high - low + 1));
    }
}
