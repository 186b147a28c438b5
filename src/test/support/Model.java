import java.util.List;

/** What the document says that each call answers and changes, the calls asked by their names. */
final class Model {
    private static final int OUT = Made.OUT, NO_ITEM = Made.NO_ITEM, NOT_POSSIBLE = Made.NOT_POSSIBLE, NONE = Made.NONE;

    private int poles = 4, slots = 12, perSlot = 1;
    private int type = Made.LAP, plex = 1, chording = 0;
    private boolean progressive = true;
    private boolean[] open = new boolean[12];
    // Null after a change, until the next question needs it.
    private Reference described;

    /** Booleans are given as 1 and 0. */
    long call(String name, int... a) {
        return switch (name) {
            case "setArmature" -> setArmature(a[0], a[1], a[2]);
            case "setWinding" -> setWinding(a[0], a[1], a[2] == 1);
            case "setChording" -> setChording(a[0]);
            case "setOpen" -> setOpen(a[0], a[1] == 1);
            case "coilCount" -> coils();
            case "slotPitch" -> now().slotPitch;
            case "endBar" -> isCoilOrBar(a[0]) ? now().end(a[0]) : NO_ITEM;
            case "coilEndingAt" -> isCoilOrBar(a[0]) ? now().coilEndingAt(a[0]) : NO_ITEM;
            case "upperSlot" -> isCoilOrBar(a[0]) ? now().upperSlot(a[0]) : NO_ITEM;
            case "lowerSlot" -> isCoilOrBar(a[0]) ? now().lowerSlot(a[0]) : NO_ITEM;
            case "openCoilsIn" -> a[0] >= 0 && a[0] < slots ? now().openCoilsIn(a[0]) : NO_ITEM;
            case "circuitCount" -> circuits();
            case "circuitOf" -> isCoilOrBar(a[0]) ? now().circuitOf(a[0]) : NO_ITEM;
            case "coilAt" -> a[0] >= 0 && a[0] < circuits() ? place(now().circuits.get(a[0]), a[1]) : NO_ITEM;
            case "closedCircuits" -> now().closedCircuits();
            case "brushBar" -> isBrush(a[0]) ? now().brushBar(a[0]) : NO_ITEM;
            case "brushOn" -> isCoilOrBar(a[0]) ? now().brushOn(a[0]) : NO_ITEM;
            case "pathLength" -> isBrush(a[0]) ? now().paths.get(a[0]).size() : NO_ITEM;
            case "pathEnd" -> isBrush(a[0]) ? now().ends[a[0]] : NO_ITEM;
            case "coilVoltage" -> !isCoilOrBar(a[0]) ? NO_ITEM : isTurn(a[1]) ? now().coilVoltage(a[0], a[1]) : OUT;
            case "pathVoltage" -> !isBrush(a[0]) ? NO_ITEM : isTurn(a[1]) ? now().pathVoltage(a[0], a[1]) : OUT;
            case "isBalanced" -> isTurn(a[0]) ? now().isBalanced(a[0]) : OUT;
            case "balancedTurns" -> now().balancedTurns();
            case "resistance" -> now().resistance();
            case "equalizerBar" -> isCoilOrBar(a[0]) ? now().equalizerBar(a[0]) : NO_ITEM;
            case "digest" -> now().digest();
            default -> throw new IllegalStateException("no call " + name);
        };
    }

    int poles() {
        return poles;
    }

    int slots() {
        return slots;
    }

    int coils() {
        return slots * perSlot;
    }

    int circuits() {
        return now().circuits.size();
    }

    @Override
    public String toString() {
        return Made.name(poles, slots, perSlot) + "type " + type + ", plex " + plex + ", " + progressive
            + ", chording " + chording + ": ";
    }

    private Reference now() {
        if (described == null) {
            described = new Reference(poles, slots, perSlot, type, plex, progressive, chording, open);
        }
        return described;
    }

    private boolean isCoilOrBar(int number) {
        return number >= 0 && number < coils();
    }

    private boolean isBrush(int number) {
        return number >= 0 && number < poles;
    }

    private static boolean isTurn(int turn) {
        return turn >= 0 && turn <= 100;
    }

    private static int place(List<Integer> circuit, int place) {
        return place >= 0 && place < circuit.size() ? circuit.get(place) : NONE;
    }

    private int setArmature(int poles, int slots, int perSlot) {
        boolean taken = List.of(2, 4, 6, 8).contains(poles) && slots >= poles && slots <= 24 && perSlot >= 1 && perSlot <= 3;
        if (!taken) {
            return OUT;
        }
        this.poles = poles;
        this.slots = slots;
        this.perSlot = perSlot;
        type = Made.LAP;
        plex = 1;
        progressive = true;
        chording = 0;
        open = new boolean[coils()];
        described = null;
        return coils();
    }

    private int setWinding(int type, int plex, boolean progressive) {
        if ((type != Made.LAP && type != Made.WAVE) || plex < 1 || plex > 3) {
            return OUT;
        }
        int pitch = Reference.pitch(poles, coils(), type, plex, progressive);
        if (pitch != NOT_POSSIBLE) {
            this.type = type;
            this.plex = plex;
            this.progressive = progressive;
            described = null;
        }
        return pitch;
    }

    private int setChording(int slots) {
        if (slots < 0 || slots > 5) {
            return OUT;
        }
        int previous = chording;
        chording = slots;
        described = null;
        return previous;
    }

    private int setOpen(int coil, boolean open) {
        if (!isCoilOrBar(coil)) {
            return NO_ITEM;
        }
        int previous = this.open[coil] ? 1 : 0;
        this.open[coil] = open;
        described = null;
        return previous;
    }
}
