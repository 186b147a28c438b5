import java.util.ArrayList;
import java.util.List;

/**
 * Compares every answer with a second program, written straight from the document's description:
 * all armatures, all windings, several chordings and sets of open coils.
 */
public final class ReferenceTest {
    private static final int OUT = -1001, NO_ITEM = -1002, NOT_POSSIBLE = -1003, NONE = -1004, BROKEN = -1005;
    private static final int MOST_CALLS = 512;
    private static final int[] TURNS = {Integer.MIN_VALUE, -1, 0, 1, 2, 7, 23, 24, 57, 100, 101, Integer.MAX_VALUE};

    /** What the document describes, followed coil by coil. */
    private static final class Reference {
        final int poles, slots, perSlot, coils, type, plex, chording, pitch, slotPitch;
        final boolean progressive;
        final boolean[] open;
        final List<List<Integer>> circuits = new ArrayList<>();
        final List<List<Integer>> paths = new ArrayList<>();
        final int[] ends;

        Reference(int poles, int slots, int perSlot, int type, int plex, boolean progressive, int chording, boolean[] open) {
            this.poles = poles;
            this.slots = slots;
            this.perSlot = perSlot;
            this.coils = slots * perSlot;
            this.type = type;
            this.plex = plex;
            this.progressive = progressive;
            this.chording = chording;
            this.open = open;
            pitch = pitch(poles, coils, type, plex, progressive);
            slotPitch = Math.max(slots / poles - chording, 1);
            ends = new int[poles];
            findCircuits();
            findPaths();
        }

        static int pitch(int poles, int coils, int type, int plex, boolean progressive) {
            int t = (type == 1 ? coils : 0) + (progressive ? plex : -plex);
            if (type == 0) {
                return t;
            }
            return t % (poles / 2) == 0 ? t / (poles / 2) : NOT_POSSIBLE;
        }

        int end(int coil) {
            return Math.floorMod(coil + pitch, coils);
        }

        void findCircuits() {
            boolean[] seen = new boolean[coils];
            for (int first = 0; first < coils; first++) {
                if (!seen[first]) {
                    List<Integer> circuit = new ArrayList<>();
                    for (int coil = first; !seen[coil]; coil = end(coil)) {
                        seen[coil] = true;
                        circuit.add(coil);
                    }
                    circuits.add(circuit);
                }
            }
        }

        void findPaths() {
            for (int brush = 0; brush < poles; brush++) {
                List<Integer> path = new ArrayList<>();
                int bar = brush * coils / poles;
                do {
                    path.add(bar);
                    bar = end(bar);
                } while (brushOn(bar) < 0);
                paths.add(path);
                ends[brush] = brushOn(bar);
            }
        }

        int brushOn(int bar) {
            for (int brush = 0; brush < poles; brush++) {
                if (brush * coils / poles == bar) {
                    return brush;
                }
            }
            return NONE;
        }

        int coilEndingAt(int bar) {
            for (int coil = 0; coil < coils; coil++) {
                if (end(coil) == bar) {
                    return coil;
                }
            }
            throw new IllegalStateException("no coil ends there");
        }

        int circuitOf(int coil) {
            for (int circuit = 0; circuit < circuits.size(); circuit++) {
                if (circuits.get(circuit).contains(coil)) {
                    return circuit;
                }
            }
            throw new IllegalStateException("in no circuit");
        }

        int lowerSlot(int coil) {
            return (coil / perSlot + slotPitch) % slots;
        }

        int openCoilsIn(int slot) {
            int count = 0;
            for (int coil = 0; coil < coils; coil++) {
                count += open[coil] && (coil / perSlot == slot || lowerSlot(coil) == slot) ? 1 : 0;
            }
            return count;
        }

        boolean isBroken(List<Integer> part) {
            return part.stream().anyMatch(coil -> open[coil]);
        }

        int closedCircuits() {
            return (int) circuits.stream().filter(circuit -> !isBroken(circuit)).count();
        }

        int side(int slot, int turn) {
            return ((slot + turn) % slots) * poles / slots % 2 == 0 ? 1 : -1;
        }

        int coilVoltage(int coil, int turn) {
            return side(coil / perSlot, turn) - side(lowerSlot(coil), turn);
        }

        int pathVoltage(int brush, int turn) {
            if (isBroken(paths.get(brush))) {
                return BROKEN;
            }
            return paths.get(brush).stream().mapToInt(coil -> coilVoltage(coil, turn)).sum();
        }

        boolean counts(int brush) {
            return !isBroken(paths.get(brush)) && brush % 2 != ends[brush] % 2;
        }

        int isBalanced(int turn) {
            List<Integer> sizes = new ArrayList<>();
            for (int brush = 0; brush < poles; brush++) {
                if (counts(brush)) {
                    sizes.add(Math.abs(pathVoltage(brush, turn)));
                }
            }
            return sizes.stream().distinct().count() <= 1 ? 1 : 0;
        }

        int balancedTurns() {
            int count = 0;
            for (int turn = 0; turn < slots; turn++) {
                count += isBalanced(turn);
            }
            return count;
        }

        long resistance() {
            double g = 0.0;
            for (int brush = 0; brush < poles; brush++) {
                if (counts(brush)) {
                    g += 1.0 / paths.get(brush).size();
                }
            }
            return g == 0.0 ? NONE : Double.doubleToLongBits(1.0 / g);
        }

        int equalizerBar(int bar) {
            return 2 * coils % poles == 0 ? (bar + 2 * coils / poles) % coils : NONE;
        }

        long digest() {
            List<Long> values = new ArrayList<>();
            add(values, poles, slots, coils, type, plex, progressive ? 1 : 0, pitch, chording, slotPitch);
            for (int coil = 0; coil < coils; coil++) {
                add(values, end(coil), lowerSlot(coil), circuitOf(coil), open[coil] ? 1 : 0);
            }
            add(values, circuits.size(), closedCircuits());
            for (int brush = 0; brush < poles; brush++) {
                add(values, brush * coils / poles, paths.get(brush).size(), ends[brush],
                    pathVoltage(brush, 0), pathVoltage(brush, 1));
            }
            add(values, balancedTurns(), resistance(), equalizerBar(0));
            return values.stream().reduce(1789L, (hash, value) -> 31 * hash + value);
        }

        static void add(List<Long> values, long... more) {
            for (long value : more) {
                values.add(value);
            }
        }
    }

    /** An object brought into the reference's state, made anew before its 512 calls are used up. */
    private static final class Subject {
        final Reference wanted;
        private ArmatureWinding made;
        private int calls;

        Subject(Reference wanted) {
            this.wanted = wanted;
            make();
        }

        ArmatureWinding next() {
            calls++;
            if (calls > MOST_CALLS) {
                make();
                calls++;
            }
            return made;
        }

        private void make() {
            made = new ArmatureWinding();
            made.setArmature(wanted.poles, wanted.slots, wanted.perSlot);
            made.setWinding(wanted.type, wanted.plex, wanted.progressive);
            made.setChording(wanted.chording);
            calls = 3;
            for (int coil = 0; coil < wanted.coils; coil++) {
                if (wanted.open[coil]) {
                    made.setOpen(coil, true);
                    calls++;
                }
            }
        }

        void due(String call, long got, long want) {
            if (got != want) {
                Due.due(wanted.poles + " poles " + wanted.slots + " slots " + wanted.perSlot + " a slot, type " + wanted.type
                    + " plex " + wanted.plex + " " + wanted.progressive + " chording " + wanted.chording + ": " + call, got, want);
            } else {
                Due.due(call, got, want);
            }
        }
    }

    public static void main(String[] args) {
        for (int poles = 2; poles <= 8; poles += 2) {
            for (int slots = poles; slots <= 24; slots++) {
                for (int perSlot = 1; perSlot <= 3; perSlot++) {
                    allWindings(poles, slots, perSlot);
                }
            }
        }
        Due.end();
    }

    private static void allWindings(int poles, int slots, int perSlot) {
        for (int kind = 0; kind < 12; kind++) {
            int type = kind % 2;
            int plex = kind / 2 % 3 + 1;
            boolean progressive = kind < 6;
            int pitch = Reference.pitch(poles, slots * perSlot, type, plex, progressive);
            ArmatureWinding x = new ArmatureWinding();
            Due.due("setArmature", x.setArmature(poles, slots, perSlot), slots * perSlot);
            Due.due("setWinding", x.setWinding(type, plex, progressive), pitch);
            if (pitch != NOT_POSSIBLE) {
                for (int pattern = 0; pattern < 4; pattern++) {
                    int chording = (kind + pattern + slots) % 6;
                    boolean[] open = openCoils(slots * perSlot, pattern, kind);
                    check(new Subject(new Reference(poles, slots, perSlot, type, plex, progressive, chording, open)));
                }
            }
        }
    }

    /** No coil, one coil, about one in six, all coils. */
    private static boolean[] openCoils(int coils, int pattern, int kind) {
        boolean[] open = new boolean[coils];
        int step = pattern == 1 ? 71 : pattern == 2 ? 6 : 1;
        for (int coil = kind % Math.min(step, coils); coil < coils && pattern != 0; coil += step) {
            open[coil] = true;
        }
        return open;
    }

    private static void check(Subject x) {
        Reference r = x.wanted;
        x.due("coilCount", x.next().coilCount(), r.coils);
        x.due("slotPitch", x.next().slotPitch(), r.slotPitch);
        long digest = r.digest();
        x.due("digest", x.next().digest(), digest);
        for (int coil = -1; coil <= r.coils; coil++) {
            checkCoil(x, coil, coil >= 0 && coil < r.coils);
        }
        for (int slot = -1; slot <= r.slots; slot++) {
            x.due("openCoilsIn", x.next().openCoilsIn(slot), slot < 0 || slot >= r.slots ? NO_ITEM : r.openCoilsIn(slot));
        }
        checkCircuits(x);
        for (int brush = -1; brush <= r.poles; brush++) {
            checkBrush(x, brush, brush >= 0 && brush < r.poles);
        }
        for (int turn : TURNS) {
            x.due("isBalanced", x.next().isBalanced(turn), isTurn(turn) ? r.isBalanced(turn) : OUT);
        }
        x.due("balancedTurns", x.next().balancedTurns(), r.balancedTurns());
        x.due("resistance", x.next().resistance(), r.resistance());
        x.due("digest after the other calls", x.next().digest(), digest);
    }

    private static boolean isTurn(int turn) {
        return turn >= 0 && turn <= 100;
    }

    private static void checkCoil(Subject x, int coil, boolean there) {
        Reference r = x.wanted;
        x.due("endBar", x.next().endBar(coil), there ? r.end(coil) : NO_ITEM);
        x.due("coilEndingAt", x.next().coilEndingAt(coil), there ? r.coilEndingAt(coil) : NO_ITEM);
        x.due("upperSlot", x.next().upperSlot(coil), there ? coil / r.perSlot : NO_ITEM);
        x.due("lowerSlot", x.next().lowerSlot(coil), there ? r.lowerSlot(coil) : NO_ITEM);
        x.due("circuitOf", x.next().circuitOf(coil), there ? r.circuitOf(coil) : NO_ITEM);
        x.due("brushOn", x.next().brushOn(coil), there ? r.brushOn(coil) : NO_ITEM);
        x.due("equalizerBar", x.next().equalizerBar(coil), there ? r.equalizerBar(coil) : NO_ITEM);
        for (int turn : TURNS) {
            int want = !there ? NO_ITEM : isTurn(turn) ? r.coilVoltage(coil, turn) : OUT;
            x.due("coilVoltage", x.next().coilVoltage(coil, turn), want);
        }
    }

    private static void checkCircuits(Subject x) {
        Reference r = x.wanted;
        int count = r.circuits.size();
        x.due("circuitCount", x.next().circuitCount(), count);
        x.due("closedCircuits", x.next().closedCircuits(), r.closedCircuits());
        for (int circuit = -1; circuit <= count; circuit++) {
            boolean there = circuit >= 0 && circuit < count;
            int length = there ? r.circuits.get(circuit).size() : 0;
            for (int place = -1; place <= length; place++) {
                int want = !there ? NO_ITEM : place < 0 || place >= length ? NONE : r.circuits.get(circuit).get(place);
                x.due("coilAt", x.next().coilAt(circuit, place), want);
            }
        }
    }

    private static void checkBrush(Subject x, int brush, boolean there) {
        Reference r = x.wanted;
        x.due("brushBar", x.next().brushBar(brush), there ? brush * r.coils / r.poles : NO_ITEM);
        x.due("pathLength", x.next().pathLength(brush), there ? r.paths.get(brush).size() : NO_ITEM);
        x.due("pathEnd", x.next().pathEnd(brush), there ? r.ends[brush] : NO_ITEM);
        for (int turn : TURNS) {
            int want = !there ? NO_ITEM : isTurn(turn) ? r.pathVoltage(brush, turn) : OUT;
            x.due("pathVoltage", x.next().pathVoltage(brush, turn), want);
        }
    }
}
