/** A planner and checker for lap and wave windings of direct current armatures. */
public final class ArmatureWinding {
    // Types of winding.
    public static final int LAP = 0, WAVE = 1;

    // Error codes: no result but a digest is as low as these.
    public static final int OUT_OF_RANGE = -1001;
    public static final int NO_SUCH_ITEM = -1002;
    public static final int NOT_POSSIBLE = -1003;
    public static final int NONE = -1004;
    public static final int BROKEN = -1005;

    private static final int MOST_POLES = 8;
    private static final int MOST_SLOTS = 24;
    private static final int MOST_COILS_PER_SLOT = 3;
    private static final int MOST_COILS = MOST_SLOTS * MOST_COILS_PER_SLOT;
    private static final int MOST_PLEX = 3;
    private static final int MOST_CHORDING = 5;
    private static final int MOST_TURN = 100;

    // How a double is laid out in 64 bits.
    private static final int FRACTION_BITS = 52;
    private static final long EXPONENT_OF_ONE = 1023L;
    // Far above the six that a resistance can need.
    private static final int MOST_HALVINGS = 64;

    private static final long DIGEST_START = 1789L;

    private int poles;
    private int slots;
    private int coilsPerSlot;
    private int coils;
    private int type;
    private int plex;
    private boolean progressive;
    private int pitch;
    private int chording;
    // Both rows are made for the largest armature and used again for each one.
    private final boolean[] open = new boolean[MOST_COILS];
    private final int[] brushOnBar = new int[MOST_COILS];

    public ArmatureWinding() {
        layArmature(4, 12, 1);
    }

    // ---- armature and winding

    public int setArmature(int poles, int slots, int coilsPerSlot) {
        if (poles < 2 || poles > MOST_POLES || poles % 2 != 0) {
            return OUT_OF_RANGE;
        }
        if (slots < poles || slots > MOST_SLOTS) {
            return OUT_OF_RANGE;
        }
        if (coilsPerSlot < 1 || coilsPerSlot > MOST_COILS_PER_SLOT) {
            return OUT_OF_RANGE;
        }
        layArmature(poles, slots, coilsPerSlot);
        return coils;
    }

    public int setWinding(int type, int plex, boolean progressive) {
        if (type != LAP && type != WAVE) {
            return OUT_OF_RANGE;
        }
        if (plex < 1 || plex > MOST_PLEX) {
            return OUT_OF_RANGE;
        }
        int shift = progressive ? plex : -plex;
        if (type == WAVE && !isWavePossible(shift)) {
            return NOT_POSSIBLE;
        }
        layWinding(type, plex, progressive, type == WAVE ? wavePitch(shift) : shift);
        return pitch;
    }

    public int setChording(int slots) {
        if (slots < 0 || slots > MOST_CHORDING) {
            return OUT_OF_RANGE;
        }
        int previous = chording;
        chording = slots;
        return previous;
    }

    public int setOpen(int coil, boolean open) {
        if (coil < 0 || coil >= coils || coil >= this.open.length) {
            return NO_SUCH_ITEM;
        }
        int previous = openMark(coil);
        this.open[coil] = open;
        return previous;
    }

    private void layArmature(int poles, int slots, int coilsPerSlot) {
        this.poles = poles;
        this.slots = slots;
        this.coilsPerSlot = coilsPerSlot;
        coils = slots * coilsPerSlot;
        chording = 0;
        for (int coil = 0; coil < open.length; coil++) {
            open[coil] = false;
        }
        placeBrushes();
        layWinding(LAP, 1, true, 1);
    }

    private void layWinding(int type, int plex, boolean progressive, int pitch) {
        this.type = type;
        this.plex = plex;
        this.progressive = progressive;
        this.pitch = pitch;
    }

    private void placeBrushes() {
        for (int bar = 0; bar < brushOnBar.length; bar++) {
            brushOnBar[bar] = NONE;
        }
        // Downwards, so that the lowest number would stay on a bar that brushes share.
        for (int brush = poles - 1; brush >= 0; brush--) {
            int bar = brushBar(brush);
            if (bar >= 0 && bar < brushOnBar.length) {
                brushOnBar[bar] = brush;
            }
        }
    }

    private int wavePitch(int shift) {
        int polePairs = poles / 2;
        return polePairs > 0 ? (coils + shift) / polePairs : 0;
    }

    private boolean isWavePossible(int shift) {
        return wavePitch(shift) * (poles / 2) == coils + shift;
    }

    // ---- coils

    public int coilCount() {
        return coils;
    }

    public int slotPitch() {
        int polePitch = poles > 0 ? slots / poles : 0;
        int shortened = polePitch - chording;
        return shortened < 1 ? 1 : shortened;
    }

    public int endBar(int coil) {
        if (coil < 0 || coil >= coils) {
            return NO_SUCH_ITEM;
        }
        return wrap(coil + pitch, coils);
    }

    public int coilEndingAt(int bar) {
        if (bar < 0 || bar >= coils) {
            return NO_SUCH_ITEM;
        }
        return wrap(bar - pitch, coils);
    }

    public int upperSlot(int coil) {
        if (coil < 0 || coil >= coils || coilsPerSlot <= 0) {
            return NO_SUCH_ITEM;
        }
        return coil / coilsPerSlot;
    }

    public int lowerSlot(int coil) {
        if (coil < 0 || coil >= coils) {
            return NO_SUCH_ITEM;
        }
        return wrap(upperSlot(coil) + slotPitch(), slots);
    }

    public int openCoilsIn(int slot) {
        if (slot < 0 || slot >= slots) {
            return NO_SUCH_ITEM;
        }
        int count = 0;
        for (int coil = 0; coil < coils; coil++) {
            if (isOpen(coil) && (upperSlot(coil) == slot || lowerSlot(coil) == slot)) {
                count++;
            }
        }
        return count;
    }

    private boolean isOpen(int coil) {
        return coil >= 0 && coil < open.length && open[coil];
    }

    private int openMark(int coil) {
        return isOpen(coil) ? 1 : 0;
    }

    // ---- circuits
    // Every coil leads the same pitch further on. So all circuits have the same length, and with
    // n circuits the coils of a circuit are those that leave the same remainder when divided by n.

    public int circuitCount() {
        int length = circuitLength();
        return length > 0 ? coils / length : 0;
    }

    public int circuitOf(int coil) {
        if (coil < 0 || coil >= coils) {
            return NO_SUCH_ITEM;
        }
        return wrap(coil, circuitCount());
    }

    public int coilAt(int circuit, int place) {
        if (circuit < 0 || circuit >= circuitCount()) {
            return NO_SUCH_ITEM;
        }
        if (place < 0 || place >= circuitLength()) {
            return NONE;
        }
        return wrap(circuit + place * pitch, coils);
    }

    public int closedCircuits() {
        int count = circuitCount();
        int closed = 0;
        for (int circuit = 0; circuit < count; circuit++) {
            if (isClosed(circuit)) {
                closed++;
            }
        }
        return closed;
    }

    private int circuitLength() {
        int length = 1;
        while (length < coils && wrap(length * pitch, coils) != 0) {
            length++;
        }
        return length;
    }

    private boolean isClosed(int circuit) {
        int length = circuitLength();
        for (int place = 0; place < length; place++) {
            if (isOpen(wrap(circuit + place * pitch, coils))) {
                return false;
            }
        }
        return true;
    }

    // ---- brushes and paths

    public int brushBar(int brush) {
        if (brush < 0 || brush >= poles || poles <= 0) {
            return NO_SUCH_ITEM;
        }
        return brush * coils / poles;
    }

    public int brushOn(int bar) {
        if (bar < 0 || bar >= coils || bar >= brushOnBar.length) {
            return NO_SUCH_ITEM;
        }
        return brushOnBar[bar];
    }

    public int pathLength(int brush) {
        if (brush < 0 || brush >= poles) {
            return NO_SUCH_ITEM;
        }
        int bar = wrap(brushBar(brush) + pitch, coils);
        int length = 1;
        // No path is longer than all coils: its circuit leads back to the brush that it left.
        while (length < coils && brushOn(bar) == NONE) {
            bar = wrap(bar + pitch, coils);
            length++;
        }
        return length;
    }

    public int pathEnd(int brush) {
        if (brush < 0 || brush >= poles) {
            return NO_SUCH_ITEM;
        }
        return brushOn(wrap(brushBar(brush) + pathLength(brush) * pitch, coils));
    }

    public int coilVoltage(int coil, int turn) {
        if (coil < 0 || coil >= coils) {
            return NO_SUCH_ITEM;
        }
        if (turn < 0 || turn > MOST_TURN) {
            return OUT_OF_RANGE;
        }
        return sideVoltage(upperSlot(coil), turn) - sideVoltage(lowerSlot(coil), turn);
    }

    public int pathVoltage(int brush, int turn) {
        if (brush < 0 || brush >= poles) {
            return NO_SUCH_ITEM;
        }
        if (turn < 0 || turn > MOST_TURN) {
            return OUT_OF_RANGE;
        }
        if (isBroken(brush)) {
            return BROKEN;
        }
        int length = pathLength(brush);
        int coil = brushBar(brush);
        int voltage = 0;
        for (int place = 0; place < length; place++) {
            voltage += coilVoltage(coil, turn);
            coil = wrap(coil + pitch, coils);
        }
        return voltage;
    }

    public int isBalanced(int turn) {
        if (turn < 0 || turn > MOST_TURN) {
            return OUT_OF_RANGE;
        }
        int size = NONE;
        for (int brush = 0; brush < poles; brush++) {
            if (pathCounts(brush)) {
                int voltage = Math.abs(pathVoltage(brush, turn));
                if (size != NONE && voltage != size) {
                    return 0;
                }
                size = voltage;
            }
        }
        return 1;
    }

    public int balancedTurns() {
        int balanced = 0;
        for (int turn = 0; turn < slots; turn++) {
            if (isBalanced(turn) == 1) {
                balanced++;
            }
        }
        return balanced;
    }

    public long resistance() {
        double conductance = 0.0;
        for (int brush = 0; brush < poles; brush++) {
            if (pathCounts(brush)) {
                conductance += 1.0 / pathLength(brush);
            }
        }
        return conductance > 0.0 ? bitsOf(1.0 / conductance) : NONE;
    }

    public int equalizerBar(int bar) {
        if (bar < 0 || bar >= coils) {
            return NO_SUCH_ITEM;
        }
        if (poles <= 0 || 2 * coils % poles != 0) {
            return NONE;
        }
        return wrap(bar + 2 * coils / poles, coils);
    }

    private int sideVoltage(int slot, int turn) {
        int pole = slots > 0 ? wrap(slot + turn, slots) * poles / slots : 0;
        return pole % 2 == 0 ? 1 : -1;
    }

    private boolean isBroken(int brush) {
        int length = pathLength(brush);
        int coil = brushBar(brush);
        for (int place = 0; place < length; place++) {
            if (isOpen(coil)) {
                return true;
            }
            coil = wrap(coil + pitch, coils);
        }
        return false;
    }

    /** Tells whether a path is whole and leads to a brush of the other polarity. */
    private boolean pathCounts(int brush) {
        return (pathEnd(brush) - brush) % 2 != 0 && !isBroken(brush);
    }

    // ---- digest

    public long digest() {
        long hash = mixWinding(DIGEST_START);
        for (int coil = 0; coil < coils; coil++) {
            hash = mixCoil(hash, coil);
        }
        hash = mix(hash, circuitCount());
        hash = mix(hash, closedCircuits());
        for (int brush = 0; brush < poles; brush++) {
            hash = mixBrush(hash, brush);
        }
        hash = mix(hash, balancedTurns());
        hash = mix(hash, resistance());
        return mix(hash, equalizerBar(0));
    }

    private long mixWinding(long start) {
        long hash = mix(start, poles);
        hash = mix(hash, slots);
        hash = mix(hash, coils);
        hash = mix(hash, type);
        hash = mix(hash, plex);
        hash = mix(hash, progressive ? 1 : 0);
        hash = mix(hash, pitch);
        hash = mix(hash, chording);
        return mix(hash, slotPitch());
    }

    private long mixCoil(long start, int coil) {
        long hash = mix(start, endBar(coil));
        hash = mix(hash, lowerSlot(coil));
        hash = mix(hash, circuitOf(coil));
        return mix(hash, openMark(coil));
    }

    private long mixBrush(long start, int brush) {
        long hash = mix(start, brushBar(brush));
        hash = mix(hash, pathLength(brush));
        hash = mix(hash, pathEnd(brush));
        hash = mix(hash, pathVoltage(brush, 0));
        return mix(hash, pathVoltage(brush, 1));
    }

    private static long mix(long hash, long value) {
        return 31L * hash + value;
    }

    // ---- arithmetic

    /** Brings a number round a ring of the given size: the mod that is never negative. */
    private static int wrap(int number, int size) {
        if (size <= 0) {
            return 0;
        }
        int rest = number % size;
        return rest < 0 ? rest + size : rest;
    }

    /**
     * Answers what Double.doubleToLongBits does, which LANGUAGE.md does not list, for a resistance:
     * 1/8 to 72. Only powers of two divide and multiply here, so nothing is rounded.
     */
    private static long bitsOf(double value) {
        double rest = value;
        long exponent = EXPONENT_OF_ONE;
        for (int i = 0; i < MOST_HALVINGS && rest >= 2.0; i++) {
            rest = rest / 2.0;
            exponent++;
        }
        for (int i = 0; i < MOST_HALVINGS && rest < 1.0; i++) {
            rest = rest * 2.0;
            exponent--;
        }
        double fraction = (rest - 1.0) * (double) (1L << FRACTION_BITS);
        return (exponent << FRACTION_BITS) + (long) fraction;
    }
}
