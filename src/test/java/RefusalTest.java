import java.util.Arrays;
import java.util.List;

/**
 * The document's section "Errors": for each method that can refuse, each code that it can answer, that
 * the refused call changed nothing, and which error is returned where several apply.
 */
public final class RefusalTest {
    private static final int LAP = Made.LAP, WAVE = Made.WAVE;
    private static final int OUT = Made.OUT, NO_ITEM = Made.NO_ITEM, NOT_POSSIBLE = Made.NOT_POSSIBLE;
    private static final int NONE = Made.NONE, BROKEN = Made.BROKEN, MIN = Made.MIN, MAX = Made.MAX;
    private static final int LEAST_RESULT = -1000;

    /** What an object is brought to before a call, and must still be in after a refused one. */
    private record State(String name, int poles, int slots, int perSlot, int type, int plex, boolean progressive,
                         int chording, List<Integer> open) {
        ArmatureWinding make() {
            ArmatureWinding x = Made.wound(Made.armature(poles, slots, perSlot), type, plex, progressive);
            for (int coil : open) {
                Made.opened(x, coil);
            }
            return Made.chorded(x, chording);
        }

        int coils() {
            return slots * perSlot;
        }
    }

    private static final List<State> STATES = List.of(
        new State("first", 4, 12, 1, LAP, 1, true, 0, List.of()),
        new State("first, one open", 4, 12, 1, LAP, 3, false, 2, List.of(4)),
        new State("smallest, all open", 2, 2, 1, WAVE, 2, false, 5, List.of(0, 1)),
        new State("duplex of 20", 6, 10, 2, LAP, 2, false, 1, List.of(5)),
        new State("wave of 15", 4, 15, 1, WAVE, 3, true, 1, List.of(0, 14)),
        new State("wave of 69", 8, 23, 3, WAVE, 1, false, 4, List.of(0, 34, 68)),
        new State("largest, all open", 8, 24, 3, LAP, 3, true, 5, numbersBelow(72)));

    public static void main(String[] args) {
        setArmatureRefused();
        setWindingRefused();
        setWindingNotPossible();
        setChordingRefused();
        setOpenRefused();
        coilNumbersRefused();
        barNumbersRefused();
        noBrushOnTheBar();
        noEqualizer();
        slotNumbersRefused();
        circuitNumbersRefused();
        placesRefused();
        brushNumbersRefused();
        turnsRefused();
        brokenPaths();
        noResistance();
        refusalsInARow();
        firstErrorOfSetArmature();
        firstErrorOfSetWinding();
        firstErrorOfCoilAt();
        firstErrorOfCoilVoltage();
        firstErrorOfPathVoltage();
        firstErrorOfEqualizerBar();
        codesBelowAllResults();
        Due.end();
    }

    private static List<Integer> numbersBelow(int count) {
        Integer[] numbers = new Integer[count];
        for (int i = 0; i < count; i++) {
            numbers[i] = i;
        }
        return List.of(numbers);
    }

    // ---- a method that returns an error code changes nothing

    private interface Call {
        long on(ArmatureWinding x);
    }

    private static void refuses(State state, String call, long code, Call refused) {
        String at = state.name() + ", " + call;
        ArmatureWinding x = state.make();
        long[] before = answers(state, x);
        Due.due(at, refused.on(x), code);
        staysAs(at, state, x, before);
    }

    private static void staysAs(String at, State state, ArmatureWinding x, long[] before) {
        long[] after = answers(state, x);
        for (int i = 0; i < before.length; i++) {
            Due.due(at + ": answer " + i + " after it", after[i], before[i]);
        }
        Due.due(at + ": chording after it", x.setChording(0), state.chording());
        for (int coil = 0; coil < state.coils(); coil++) {
            Due.due(at + ": coil " + coil + " after it", x.setOpen(coil, false), state.open().contains(coil) ? 1 : 0);
        }
    }

    /** Few enough that an object stays below its 512 calls. */
    private static long[] answers(State state, ArmatureWinding x) {
        int last = state.coils() - 1;
        long[] answers = {
            x.digest(), x.coilCount(), x.slotPitch(), x.circuitCount(), x.closedCircuits(), x.balancedTurns(), x.resistance(),
            x.endBar(0), x.endBar(last), x.endBar(last + 1), x.coilEndingAt(0), x.coilEndingAt(last), x.upperSlot(last),
            x.lowerSlot(last), x.circuitOf(last), x.coilAt(0, 1), x.coilVoltage(last, 100), x.isBalanced(0), x.isBalanced(100),
            x.equalizerBar(0), x.equalizerBar(last), x.brushBar(1), x.brushBar(state.poles() - 1), x.brushBar(state.poles()),
        };
        int length = answers.length;
        answers = Arrays.copyOf(answers, length + 2 * state.slots() + 2 * state.poles());
        for (int i = 0; i < 2 * state.slots(); i++) {
            answers[length++] = i < state.slots() ? x.openCoilsIn(i) : x.brushOn(i);
        }
        for (int brush = 0; brush < state.poles(); brush++) {
            answers[length++] = x.pathVoltage(brush, 1);
            answers[length++] = x.pathEnd(brush);
        }
        return answers;
    }

    private static void setArmatureRefused() {
        Due.begin("setArmature refused changes nothing");
        int[][] wrong = {
            // The parameters that are in range are other than the object's.
            {0, 24, 3}, {1, 24, 3}, {3, 24, 3}, {9, 24, 3}, {10, 24, 3}, {-2, 2, 1}, {MIN, 2, 1}, {MAX, 24, 3},
            {2, 1, 1}, {2, 25, 1}, {4, 3, 3}, {4, 25, 3}, {6, 5, 3}, {6, 25, 2}, {8, 7, 2}, {8, 25, 2}, {8, MIN, 2}, {8, MAX, 2},
            {2, 2, 0}, {2, 2, 4}, {8, 24, 0}, {8, 24, 4}, {8, 24, MIN}, {8, 24, MAX}, {MIN, MIN, MIN}, {MAX, MAX, MAX},
        };
        for (State state : STATES) {
            for (int[] w : wrong) {
                refuses(state, "setArmature " + Made.name(w[0], w[1], w[2]), OUT, x -> x.setArmature(w[0], w[1], w[2]));
            }
            refuses(state, "own poles, one slot too few", OUT,
                x -> x.setArmature(state.poles(), state.poles() - 1, state.perSlot()));
            refuses(state, "own armature with 0 coils a slot", OUT, x -> x.setArmature(state.poles(), state.slots(), 0));
        }
    }

    private static void setWindingRefused() {
        Due.begin("setWinding refused changes nothing");
        int[][] wrong = {
            // type, plex, progressive
            {-1, 1, 1}, {-1, 2, 0}, {2, 1, 1}, {2, 3, 0}, {MIN, 1, 0}, {MAX, 3, 1},
            {LAP, 0, 1}, {LAP, 4, 0}, {LAP, -1, 1}, {LAP, MIN, 0}, {LAP, MAX, 1},
            {WAVE, 0, 0}, {WAVE, 4, 1}, {WAVE, -1, 0}, {WAVE, MIN, 1}, {WAVE, MAX, 0},
        };
        for (State state : STATES) {
            for (int[] w : wrong) {
                refuses(state, "setWinding " + w[0] + " " + w[1] + " " + w[2], OUT, x -> x.setWinding(w[0], w[1], w[2] == 1));
            }
        }
    }

    private static void setWindingNotPossible() {
        Due.begin("setWinding NOT_POSSIBLE changes nothing");
        for (State state : STATES) {
            for (int plex = 1; plex <= 3; plex++) {
                notPossible(state, plex, true);
                notPossible(state, plex, false);
            }
        }
    }

    private static void notPossible(State state, int plex, boolean progressive) {
        int t = progressive ? state.coils() + plex : state.coils() - plex;
        if (t % (state.poles() / 2) != 0) {
            refuses(state, "wave " + plex + " " + progressive, NOT_POSSIBLE, x -> x.setWinding(WAVE, plex, progressive));
        }
    }

    private static void setChordingRefused() {
        Due.begin("setChording refused changes nothing");
        for (State state : STATES) {
            for (int chording : new int[] {MIN, -2, -1, 6, 7, MAX}) {
                refuses(state, "setChording " + chording, OUT, x -> x.setChording(chording));
            }
        }
    }

    private static int[] wrongNumbers(int count) {
        return new int[] {MIN, -2, -1, count, count + 1, 72, 73, MAX};
    }

    private static void setOpenRefused() {
        Due.begin("setOpen refused changes nothing");
        for (State state : STATES) {
            for (int coil : wrongNumbers(state.coils())) {
                refuses(state, "setOpen " + coil, NO_ITEM, x -> x.setOpen(coil, true));
                refuses(state, "setOpen " + coil + ", close", NO_ITEM, x -> x.setOpen(coil, false));
            }
        }
    }

    private static void coilNumbersRefused() {
        Due.begin("a coil that does not exist changes nothing");
        for (State state : STATES) {
            for (int coil : wrongNumbers(state.coils())) {
                refuses(state, "endBar " + coil, NO_ITEM, x -> x.endBar(coil));
                refuses(state, "upperSlot " + coil, NO_ITEM, x -> x.upperSlot(coil));
                refuses(state, "lowerSlot " + coil, NO_ITEM, x -> x.lowerSlot(coil));
                refuses(state, "circuitOf " + coil, NO_ITEM, x -> x.circuitOf(coil));
                refuses(state, "coilVoltage " + coil, NO_ITEM, x -> x.coilVoltage(coil, 1));
            }
        }
    }

    private static void barNumbersRefused() {
        Due.begin("a bar that does not exist changes nothing");
        for (State state : STATES) {
            for (int bar : wrongNumbers(state.coils())) {
                refuses(state, "coilEndingAt " + bar, NO_ITEM, x -> x.coilEndingAt(bar));
                refuses(state, "brushOn " + bar, NO_ITEM, x -> x.brushOn(bar));
                refuses(state, "equalizerBar " + bar, NO_ITEM, x -> x.equalizerBar(bar));
            }
        }
    }

    private static void noBrushOnTheBar() {
        Due.begin("brushOn NONE changes nothing");
        for (State state : STATES) {
            if (state.coils() > state.poles()) {
                refuses(state, "brushOn the last bar", NONE, x -> x.brushOn(state.coils() - 1));
            }
        }
    }

    private static void noEqualizer() {
        Due.begin("equalizerBar NONE changes nothing");
        for (State state : STATES) {
            if (2 * state.coils() % state.poles() != 0) {
                refuses(state, "equalizerBar 0", NONE, x -> x.equalizerBar(0));
                refuses(state, "equalizerBar of the last bar", NONE, x -> x.equalizerBar(state.coils() - 1));
            }
        }
    }

    private static void slotNumbersRefused() {
        Due.begin("a slot that does not exist changes nothing");
        for (State state : STATES) {
            for (int slot : wrongNumbers(state.slots())) {
                refuses(state, "openCoilsIn " + slot, NO_ITEM, x -> x.openCoilsIn(slot));
            }
        }
    }

    private static void circuitNumbersRefused() {
        Due.begin("a circuit that does not exist changes nothing");
        for (State state : STATES) {
            for (int circuit : wrongNumbers(state.make().circuitCount())) {
                refuses(state, "coilAt " + circuit + ", 0", NO_ITEM, x -> x.coilAt(circuit, 0));
            }
        }
    }

    private static void placesRefused() {
        Due.begin("coilAt NONE changes nothing");
        for (State state : STATES) {
            int circuits = state.make().circuitCount();
            for (int place : wrongNumbers(state.coils() / circuits)) {
                refuses(state, "coilAt 0, " + place, NONE, x -> x.coilAt(0, place));
                refuses(state, "coilAt the last, " + place, NONE, x -> x.coilAt(circuits - 1, place));
            }
        }
    }

    private static void brushNumbersRefused() {
        Due.begin("a brush that does not exist changes nothing");
        for (State state : STATES) {
            for (int brush : wrongNumbers(state.poles())) {
                refuses(state, "brushBar " + brush, NO_ITEM, x -> x.brushBar(brush));
                refuses(state, "pathLength " + brush, NO_ITEM, x -> x.pathLength(brush));
                refuses(state, "pathEnd " + brush, NO_ITEM, x -> x.pathEnd(brush));
                refuses(state, "pathVoltage " + brush, NO_ITEM, x -> x.pathVoltage(brush, 1));
            }
        }
    }

    private static void turnsRefused() {
        Due.begin("a turn out of range changes nothing");
        for (State state : STATES) {
            for (int turn : new int[] {MIN, -2, -1, 101, 102, MAX}) {
                refuses(state, "coilVoltage, turn " + turn, OUT, x -> x.coilVoltage(0, turn));
                refuses(state, "pathVoltage, turn " + turn, OUT, x -> x.pathVoltage(0, turn));
                refuses(state, "isBalanced, turn " + turn, OUT, x -> x.isBalanced(turn));
            }
        }
    }

    private static void brokenPaths() {
        Due.begin("pathVoltage BROKEN changes nothing");
        for (State state : STATES) {
            // In each of the states with open coils that have coil 0, it breaks brush 0.
            if (state.open().contains(0)) {
                refuses(state, "pathVoltage 0, 0", BROKEN, x -> x.pathVoltage(0, 0));
                refuses(state, "pathVoltage 0, 100", BROKEN, x -> x.pathVoltage(0, 100));
            }
        }
    }

    private static void noResistance() {
        Due.begin("resistance NONE changes nothing");
        for (State state : STATES) {
            if (state.open().size() == state.coils()) {
                refuses(state, "resistance", NONE, ArmatureWinding::resistance);
            }
        }
    }

    private static void refusalsInARow() {
        Due.begin("refused calls one after the other change nothing");
        for (State state : STATES) {
            ArmatureWinding x = state.make();
            long[] before = answers(state, x);
            int coils = state.coils();
            Due.due(state.name() + ", setArmature", x.setArmature(8, 24, 4), OUT);
            Due.due(state.name() + ", setWinding", x.setWinding(WAVE, 4, true), OUT);
            Due.due(state.name() + ", setChording", x.setChording(6), OUT);
            Due.due(state.name() + ", setOpen", x.setOpen(coils, true), NO_ITEM);
            Due.due(state.name() + ", setOpen", x.setOpen(-1, false), NO_ITEM);
            Due.due(state.name() + ", coilAt", x.coilAt(0, coils), NONE);
            Due.due(state.name() + ", isBalanced", x.isBalanced(101), OUT);
            staysAs(state.name() + ", in a row", state, x, before);
        }
    }

    // ---- where several errors apply, the one that is listed first is returned

    private static void firstErrorOfSetArmature() {
        Due.begin("setArmature lists one error");
        Due.due("all three out of range", new ArmatureWinding().setArmature(3, 25, 4), OUT);
        Due.due("slots and coils per slot", new ArmatureWinding().setArmature(4, 3, 0), OUT);
    }

    private static void firstErrorOfSetWinding() {
        Due.begin("setWinding: OUT_OF_RANGE before NOT_POSSIBLE");
        // 72 coils of 8 poles leave no wave winding of any plex.
        for (int plex : new int[] {MIN, -1, 0, 4, 5, MAX}) {
            Due.due("wave on, plex " + plex, Made.largest().setWinding(WAVE, plex, true), OUT);
            Due.due("wave back, plex " + plex, Made.largest().setWinding(WAVE, plex, false), OUT);
        }
        Due.due("type and plex", Made.largest().setWinding(2, 4, true), OUT);
        Due.due("type", Made.largest().setWinding(2, 1, true), OUT);
        Due.due("no error but that", Made.largest().setWinding(WAVE, 1, true), NOT_POSSIBLE);
    }

    private static void firstErrorOfCoilAt() {
        Due.begin("coilAt: NO_SUCH_ITEM before NONE");
        for (int circuit : new int[] {MIN, -1, 1, MAX}) {
            for (int place : new int[] {MIN, -1, 12, MAX}) {
                Due.due(circuit + ", " + place, new ArmatureWinding().coilAt(circuit, place), NO_ITEM);
            }
        }
        Due.due("no error but that", new ArmatureWinding().coilAt(0, 12), NONE);
    }

    private static void firstErrorOfCoilVoltage() {
        Due.begin("coilVoltage: NO_SUCH_ITEM before OUT_OF_RANGE");
        for (int coil : new int[] {MIN, -1, 12, MAX}) {
            for (int turn : new int[] {MIN, -1, 101, MAX}) {
                Due.due(coil + ", " + turn, new ArmatureWinding().coilVoltage(coil, turn), NO_ITEM);
            }
        }
        Due.due("no error but that", new ArmatureWinding().coilVoltage(11, 101), OUT);
    }

    private static void firstErrorOfPathVoltage() {
        Due.begin("pathVoltage: NO_SUCH_ITEM before OUT_OF_RANGE before BROKEN");
        for (int turn : new int[] {MIN, -1, 101, MAX}) {
            for (int brush : new int[] {MIN, -1, 4, MAX}) {
                Due.due(brush + ", " + turn, Made.allOpened(new ArmatureWinding()).pathVoltage(brush, turn), NO_ITEM);
            }
            for (int brush = 0; brush < 4; brush++) {
                Due.due(brush + " broken, " + turn, Made.allOpened(new ArmatureWinding()).pathVoltage(brush, turn), OUT);
            }
        }
        Due.due("no brush, all open", Made.allOpened(new ArmatureWinding()).pathVoltage(4, 0), NO_ITEM);
        Due.due("no error but that", Made.allOpened(new ArmatureWinding()).pathVoltage(3, 100), BROKEN);
    }

    private static void firstErrorOfEqualizerBar() {
        Due.begin("equalizerBar: NO_SUCH_ITEM before NONE");
        for (int bar : new int[] {MIN, -1, 5, MAX}) {
            Due.due("bar " + bar, Made.armature(4, 5, 1).equalizerBar(bar), NO_ITEM);
        }
        Due.due("no error but that", Made.armature(4, 5, 1).equalizerBar(4), NONE);
    }

    // ---- all error codes are less than -1000, and no other result but a digest is

    private static void codesBelowAllResults() {
        Due.begin("all error codes are less than -1000, and no other result but a digest is");
        for (int code : new int[] {ArmatureWinding.OUT_OF_RANGE, ArmatureWinding.NO_SUCH_ITEM, ArmatureWinding.NOT_POSSIBLE,
            ArmatureWinding.NONE, ArmatureWinding.BROKEN}) {
            Due.due("code " + code, code < LEAST_RESULT, true);
        }
        Made.atEachArmature((poles, slots, perSlot) -> Made.atEachWinding(poles, slots, perSlot, (type, plex, progressive) -> {
            ArmatureWinding x = Made.armature(poles, slots, perSlot);
            String at = Made.name(poles, slots, perSlot) + type + " " + plex + " " + progressive;
            long least = Math.min(x.setWinding(type, plex, progressive), x.balancedTurns());
            for (int brush = 0; brush < poles; brush++) {
                least = Math.min(least, Math.min(x.pathVoltage(brush, 0), x.pathVoltage(brush, slots / 2)));
            }
            Due.due(at + ", least " + least, least >= LEAST_RESULT, true);
            long resistance = x.resistance();
            Due.due(at + ", resistance " + resistance, resistance == NONE || resistance > 0, true);
        }));
        Due.due("a digest may be less", Made.armature(2, 2, 2).digest(), -1189687635248939476L);
    }
}
