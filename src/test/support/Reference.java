import java.util.ArrayList;
import java.util.List;

/** A second program, written straight from the document's description: it follows coil by coil. */
final class Reference {
    private static final int NOT_POSSIBLE = Made.NOT_POSSIBLE, NONE = Made.NONE, BROKEN = Made.BROKEN;

    final int poles, slots, perSlot, coils, type, plex, chording, pitch, slotPitch;
    final boolean progressive;
    final boolean[] open;
    final List<List<Integer>> circuits = new ArrayList<>();
    final List<List<Integer>> paths = new ArrayList<>();
    final int[] ends;

    Reference(int poles, int slots, int perSlot, int type, int plex, boolean progressive, int chording, boolean[] open) {
        this.poles = poles;
        this.slots = slots;
        this.perSlot = perSlot;
        this.coils = slots * perSlot;
        this.type = type;
        this.plex = plex;
        this.progressive = progressive;
        this.chording = chording;
        this.open = open;
        pitch = pitch(poles, coils, type, plex, progressive);
        slotPitch = Math.max(slots / poles - chording, 1);
        ends = new int[poles];
        findCircuits();
        findPaths();
    }

    static int pitch(int poles, int coils, int type, int plex, boolean progressive) {
        int t = (type == 1 ? coils : 0) + (progressive ? plex : -plex);
        if (type == 0) {
            return t;
        }
        return t % (poles / 2) == 0 ? t / (poles / 2) : NOT_POSSIBLE;
    }

    int end(int coil) {
        return Math.floorMod(coil + pitch, coils);
    }

    private void findCircuits() {
        boolean[] seen = new boolean[coils];
        for (int first = 0; first < coils; first++) {
            if (!seen[first]) {
                List<Integer> circuit = new ArrayList<>();
                for (int coil = first; !seen[coil]; coil = end(coil)) {
                    seen[coil] = true;
                    circuit.add(coil);
                }
                circuits.add(circuit);
            }
        }
    }

    private void findPaths() {
        for (int brush = 0; brush < poles; brush++) {
            List<Integer> path = new ArrayList<>();
            int bar = brushBar(brush);
            do {
                path.add(bar);
                bar = end(bar);
            } while (brushOn(bar) < 0);
            paths.add(path);
            ends[brush] = brushOn(bar);
        }
    }

    int brushBar(int brush) {
        return brush * coils / poles;
    }

    int brushOn(int bar) {
        for (int brush = 0; brush < poles; brush++) {
            if (brushBar(brush) == bar) {
                return brush;
            }
        }
        return NONE;
    }

    int coilEndingAt(int bar) {
        for (int coil = 0; coil < coils; coil++) {
            if (end(coil) == bar) {
                return coil;
            }
        }
        throw new IllegalStateException("no coil ends there");
    }

    int circuitOf(int coil) {
        for (int circuit = 0; circuit < circuits.size(); circuit++) {
            if (circuits.get(circuit).contains(coil)) {
                return circuit;
            }
        }
        throw new IllegalStateException("in no circuit");
    }

    int upperSlot(int coil) {
        return coil / perSlot;
    }

    int lowerSlot(int coil) {
        return (upperSlot(coil) + slotPitch) % slots;
    }

    int openCoilsIn(int slot) {
        int count = 0;
        for (int coil = 0; coil < coils; coil++) {
            count += open[coil] && (upperSlot(coil) == slot || lowerSlot(coil) == slot) ? 1 : 0;
        }
        return count;
    }

    private boolean isBroken(List<Integer> part) {
        return part.stream().anyMatch(coil -> open[coil]);
    }

    int closedCircuits() {
        return (int) circuits.stream().filter(circuit -> !isBroken(circuit)).count();
    }

    private int side(int slot, int turn) {
        return ((slot + turn) % slots) * poles / slots % 2 == 0 ? 1 : -1;
    }

    int coilVoltage(int coil, int turn) {
        return side(upperSlot(coil), turn) - side(lowerSlot(coil), turn);
    }

    int pathVoltage(int brush, int turn) {
        if (isBroken(paths.get(brush))) {
            return BROKEN;
        }
        return paths.get(brush).stream().mapToInt(coil -> coilVoltage(coil, turn)).sum();
    }

    private boolean counts(int brush) {
        return !isBroken(paths.get(brush)) && brush % 2 != ends[brush] % 2;
    }

    int isBalanced(int turn) {
        List<Integer> sizes = new ArrayList<>();
        for (int brush = 0; brush < poles; brush++) {
            if (counts(brush)) {
                sizes.add(Math.abs(pathVoltage(brush, turn)));
            }
        }
        return sizes.stream().distinct().count() <= 1 ? 1 : 0;
    }

    int balancedTurns() {
        int count = 0;
        for (int turn = 0; turn < slots; turn++) {
            count += isBalanced(turn);
        }
        return count;
    }

    long resistance() {
        double g = 0.0;
        for (int brush = 0; brush < poles; brush++) {
            if (counts(brush)) {
                g += 1.0 / paths.get(brush).size();
            }
        }
        return g == 0.0 ? NONE : Double.doubleToLongBits(1.0 / g);
    }

    int equalizerBar(int bar) {
        return 2 * coils % poles == 0 ? (bar + 2 * coils / poles) % coils : NONE;
    }

    long digest() {
        List<Long> values = new ArrayList<>();
        add(values, poles, slots, coils, type, plex, progressive ? 1 : 0, pitch, chording, slotPitch);
        for (int coil = 0; coil < coils; coil++) {
            add(values, end(coil), lowerSlot(coil), circuitOf(coil), open[coil] ? 1 : 0);
        }
        add(values, circuits.size(), closedCircuits());
        for (int brush = 0; brush < poles; brush++) {
            add(values, brushBar(brush), paths.get(brush).size(), ends[brush], pathVoltage(brush, 0), pathVoltage(brush, 1));
        }
        add(values, balancedTurns(), resistance(), equalizerBar(0));
        return values.stream().reduce(1789L, (hash, value) -> 31 * hash + value);
    }

    private static void add(List<Long> values, long... more) {
        for (long value : more) {
            values.add(value);
        }
    }
}
