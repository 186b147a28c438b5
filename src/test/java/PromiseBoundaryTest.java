import java.util.Set;

/**
 * Each boundary case that a promise's own section names: the ends of the ranges, no coil open and all
 * coils open, the smallest and the largest armature. What a refused call leaves is RefusalTest's.
 */
public final class PromiseBoundaryTest {
    private static final int LAP = Made.LAP, WAVE = Made.WAVE;
    private static final int OUT = Made.OUT, NO_ITEM = Made.NO_ITEM, NONE = Made.NONE, BROKEN = Made.BROKEN;
    private static final int MIN = Made.MIN, MAX = Made.MAX;
    private static final int[] WRONG_TURNS = {MIN, -100, -1, 101, 102, MAX};

    public static void main(String[] args) {
        firstArmature();
        objectsOnTheirOwn();
        rangeOfPoles();
        rangeOfSlots();
        rangeOfCoilsPerSlot();
        rangesTogether();
        armatureWithoutChording();
        armatureWithoutOpenCoils();
        armatureWithFirstWinding();
        rangeOfType();
        rangeOfPlex();
        windingLeavesTheRest();
        rangeOfChording();
        previousChording();
        wasOpenOrNot();
        changesLeaveTheWinding();
        openCoilsNoneAndAll();
        openCoilsWithBothSides();
        circuitCountNoneAndAll();
        circuitNumbers();
        places();
        closedCircuitsNoneAndAll();
        brushNumbers();
        oneBrushOnABar();
        pathsOfOpenCoils();
        turnOfCoilVoltage();
        turnOfPathVoltage();
        turnOfIsBalanced();
        balancedUpToTheSign();
        balancedBySomePathsOnly();
        balancedWithoutPaths();
        turnsFromZeroToLast();
        resistanceWithoutPaths();
        resistanceInOrder();
        resistanceLeastAndMost();
        equalizerGoesRound();
        equalizerDivides();
        digestOfTheFirst();
        digestOfErrorCodes();
        digestOfAll();
        Due.end();
    }

    // ---- 1 a new object

    private static void firstArmature() {
        Due.begin("1: at first 4 poles, 12 slots, 1 coil per slot, chording 0, no open coils, lap on, plex 1");
        ArmatureWinding x = new ArmatureWinding();
        Due.due("last brush", x.brushBar(3), 9);
        Due.due("no fifth brush", x.brushBar(4), NO_ITEM);
        Due.due("last slot", x.openCoilsIn(11), 0);
        Due.due("no thirteenth slot", x.openCoilsIn(12), NO_ITEM);
        Due.due("coils", x.coilCount(), 12);
        Due.due("one coil per slot", x.upperSlot(11), 11);
        Due.due("slot pitch", x.slotPitch(), 3);
        Due.due("progressive, plex 1", x.endBar(0), 1);
        for (int coil = 0; coil < 12; coil++) {
            Due.due("coil " + coil + " is not open", x.setOpen(coil, false), 0);
        }
        Due.due("chording", x.setChording(0), 0);
        long hash = hashOf(1789, 4, 12, 12, LAP, 1, 1, 1, 0, 3);
        Due.due("all of it", new ArmatureWinding().digest(), hashOfTheRest(hash, new ArmatureWinding(), new boolean[12]));
    }

    private static void objectsOnTheirOwn() {
        Due.begin("1: creates the first armature, whatever became of another object");
        ArmatureWinding other = Made.chorded(Made.wound(Made.allOpened(Made.largest()), LAP, 3, false), 5);
        ArmatureWinding x = new ArmatureWinding();
        Due.due("digest", x.digest(), Made.armature(4, 12, 1).digest());
        x.setOpen(0, false);
        x.setChording(1);
        Due.due("the other's coil", other.setOpen(0, true), 1);
        Due.due("the other's chording", other.setChording(5), 5);
        Due.due("the other's coils", other.coilCount(), 72);
    }

    // ---- 2 setArmature

    private static void rangeOfPoles() {
        Due.begin("2: poles: 2, 4, 6 or 8");
        for (int poles = -10; poles <= 26; poles++) {
            int want = poles == 2 || poles == 4 || poles == 6 || poles == 8 ? 24 : OUT;
            Due.due("poles " + poles, new ArmatureWinding().setArmature(poles, 24, 1), want);
        }
        Due.due("poles 0 of 0 slots", new ArmatureWinding().setArmature(0, 0, 1), OUT);
        Due.due("poles -2 of -2 slots", new ArmatureWinding().setArmature(-2, -2, 1), OUT);
        Due.due("poles 10 of 10 slots", new ArmatureWinding().setArmature(10, 10, 1), OUT);
        Due.due("the least int of poles", new ArmatureWinding().setArmature(MIN, 24, 1), OUT);
        Due.due("the greatest int of poles", new ArmatureWinding().setArmature(MAX, 24, 1), OUT);
    }

    private static void rangeOfSlots() {
        Due.begin("2: slots: from poles to 24");
        for (int poles = 2; poles <= 8; poles += 2) {
            Due.due(poles + " poles, as many slots", new ArmatureWinding().setArmature(poles, poles, 1), poles);
            Due.due(poles + " poles, one slot fewer", new ArmatureWinding().setArmature(poles, poles - 1, 1), OUT);
            Due.due(poles + " poles, 24 slots", new ArmatureWinding().setArmature(poles, 24, 1), 24);
            Due.due(poles + " poles, 25 slots", new ArmatureWinding().setArmature(poles, 25, 1), OUT);
            Due.due(poles + " poles, 0 slots", new ArmatureWinding().setArmature(poles, 0, 1), OUT);
            Due.due(poles + " poles, the least int", new ArmatureWinding().setArmature(poles, MIN, 1), OUT);
            Due.due(poles + " poles, the greatest int", new ArmatureWinding().setArmature(poles, MAX, 1), OUT);
        }
    }

    private static void rangeOfCoilsPerSlot() {
        Due.begin("2: coilsPerSlot: 1 to 3");
        int[] answers = {OUT, OUT, 24, 48, 72, OUT, OUT};
        for (int perSlot = -1; perSlot <= 5; perSlot++) {
            Due.due("a slot " + perSlot, new ArmatureWinding().setArmature(8, 24, perSlot), answers[perSlot + 1]);
        }
        Due.due("the least int", new ArmatureWinding().setArmature(2, 2, MIN), OUT);
        Due.due("the greatest int", new ArmatureWinding().setArmature(2, 2, MAX), OUT);
    }

    private static void rangesTogether() {
        Due.begin("2: returns the number of coils; OUT_OF_RANGE if a parameter is out of range");
        Set<Integer> allPoles = Set.of(2, 4, 6, 8);
        for (int poles = -2; poles <= 10; poles++) {
            for (int slots = -1; slots <= 26; slots++) {
                for (int perSlot = -1; perSlot <= 5; perSlot++) {
                    boolean taken = allPoles.contains(poles) && slots >= poles && slots <= 24 && perSlot >= 1 && perSlot <= 3;
                    ArmatureWinding x = new ArmatureWinding();
                    Due.due(Made.name(poles, slots, perSlot), x.setArmature(poles, slots, perSlot), taken ? slots * perSlot : OUT);
                    Due.due(Made.name(poles, slots, perSlot) + "coilCount", x.coilCount(), taken ? slots * perSlot : 12);
                }
            }
        }
    }

    private static void armatureWithoutChording() {
        Due.begin("2: the chording becomes 0");
        for (int chording = 1; chording <= 5; chording++) {
            ArmatureWinding x = Made.chorded(Made.armature(2, 24, 1), chording);
            x.setArmature(2, 24, 1);
            Due.due("slot pitch after " + chording, x.slotPitch(), 12);
            Due.due("chording after " + chording, x.setChording(chording), 0);
        }
        ArmatureWinding least = Made.chorded(Made.armature(8, 8, 1), 5);
        least.setArmature(8, 8, 1);
        Due.due("where the slot pitch does not tell", least.setChording(0), 0);
    }

    private static void armatureWithoutOpenCoils() {
        Due.begin("2: no coil is open");
        ArmatureWinding again = Made.allOpened(Made.largest());
        again.setArmature(8, 24, 3);
        for (int coil = 0; coil < 72; coil++) {
            Due.due("the same armature, coil " + coil, again.setOpen(coil, false), 0);
        }
        ArmatureWinding grown = Made.allOpened(Made.largest());
        grown.setArmature(2, 2, 1);
        Due.due("a smaller one, coil 0", grown.setOpen(0, false), 0);
        Due.due("a smaller one, coil 1", grown.setOpen(1, false), 0);
        grown.setArmature(8, 24, 3);
        for (int coil = 0; coil < 72; coil++) {
            Due.due("a smaller one and the largest, coil " + coil, grown.setOpen(coil, false), 0);
        }
        Due.due("closed circuits", grown.closedCircuits(), 1);
    }

    private static void armatureWithFirstWinding() {
        Due.begin("2: and the winding becomes a progressive lap winding with plex 1");
        Made.atEachWinding(4, 15, 1, (type, plex, progressive) -> {
            ArmatureWinding x = Made.wound(Made.armature(4, 15, 1), type, plex, progressive);
            x.setArmature(4, 15, 1);
            String at = "after " + type + " " + plex + " " + progressive;
            Due.due(at + ", endBar", x.endBar(14), 0);
            Due.due(at + ", coilEndingAt", x.coilEndingAt(0), 14);
            Due.due(at + ", digest", x.digest(), Made.armature(4, 15, 1).digest());
        });
        // With 2 coils the first winding and a wave of plex 1 end at the same bars.
        ArmatureWinding small = Made.wound(Made.smallest(), WAVE, 1, false);
        small.setArmature(2, 2, 1);
        Due.due("where the bars do not tell", small.digest(), Made.smallest().digest());
    }

    // ---- 3 setWinding

    private static void rangeOfType() {
        Due.begin("3: type: LAP or WAVE");
        int[] answers = {OUT, OUT, 1, 8, OUT, OUT};
        for (int type = -2; type <= 3; type++) {
            Due.due("type " + type, Made.armature(4, 15, 1).setWinding(type, 1, true), answers[type + 2]);
        }
        Due.due("the least int", Made.armature(4, 15, 1).setWinding(MIN, 1, true), OUT);
        Due.due("the greatest int", Made.armature(4, 15, 1).setWinding(MAX, 1, true), OUT);
    }

    private static void rangeOfPlex() {
        Due.begin("3: plex: 1 to 3");
        int[] plexes = {MIN, -3, -1, 0, 1, 2, 3, 4, 5, MAX};
        for (int plex : plexes) {
            boolean taken = plex >= 1 && plex <= 3;
            Due.due("lap on, " + plex, Made.largest().setWinding(LAP, plex, true), taken ? plex : OUT);
            Due.due("lap back, " + plex, Made.largest().setWinding(LAP, plex, false), taken ? -plex : OUT);
            Due.due("wave on, " + plex, Made.armature(2, 24, 3).setWinding(WAVE, plex, true), taken ? 72 + plex : OUT);
            Due.due("wave back, " + plex, Made.armature(2, 24, 3).setWinding(WAVE, plex, false), taken ? 72 - plex : OUT);
        }
    }

    private static void windingLeavesTheRest() {
        Due.begin("3: sets the winding, and nothing else");
        ArmatureWinding x = Made.chorded(Made.opened(Made.armature(4, 15, 1), 0, 14), 2);
        Made.wound(x, WAVE, 3, false);
        Made.wound(x, LAP, 2, true);
        Due.due("coils", x.coilCount(), 15);
        for (int coil = 0; coil < 15; coil++) {
            Due.due("coil " + coil, x.setOpen(coil, false), coil == 0 || coil == 14 ? 1 : 0);
        }
        Due.due("chording", x.setChording(0), 2);
        Due.due("brush", x.brushBar(3), 11);
        Made.atEachWinding(4, 15, 1, (type, plex, progressive) -> {
            String at = type + " " + plex + " " + progressive + ", ";
            ArmatureWinding open = Made.wound(Made.chorded(Made.allOpened(Made.armature(4, 15, 1)), 5), type, plex, progressive);
            ArmatureWinding closed = Made.wound(Made.armature(4, 15, 1), type, plex, progressive);
            for (int coil = 0; coil < 15; coil++) {
                Due.due(at + "open coil " + coil, open.setOpen(coil, true), 1);
                Due.due(at + "closed coil " + coil, closed.setOpen(coil, false), 0);
            }
            Due.due(at + "chording 5", open.setChording(0), 5);
            Due.due(at + "chording 0", closed.setChording(0), 0);
        });
    }

    // ---- 4 setChording

    private static void rangeOfChording() {
        Due.begin("4: slots: 0 to 5");
        int[] chordings = {MIN, -5, -2, -1, 0, 1, 2, 3, 4, 5, 6, 7, 24, MAX};
        for (int chording : chordings) {
            boolean taken = chording >= 0 && chording <= 5;
            Due.due("to " + chording, new ArmatureWinding().setChording(chording), taken ? 0 : OUT);
            Due.due("to " + chording + " on the smallest", Made.smallest().setChording(chording), taken ? 0 : OUT);
            Due.due("to " + chording + " on the largest", Made.largest().setChording(chording), taken ? 0 : OUT);
        }
    }

    private static void previousChording() {
        Due.begin("4: returns the previous chording");
        for (int before = 0; before <= 5; before++) {
            for (int after = 0; after <= 5; after++) {
                // The slot pitch is 1 whatever the chording, so only the chording itself is asked.
                ArmatureWinding x = Made.chorded(Made.smallest(), before);
                Due.due("from " + before + " to " + after, x.setChording(after), before);
                Due.due("and back", x.setChording(before), after);
            }
        }
    }

    // ---- 5 setOpen

    private static void wasOpenOrNot() {
        Due.begin("5: returns 1 if the coil was open, 0 if not");
        Made.atEachArmature((poles, slots, perSlot) -> {
            int last = slots * perSlot - 1;
            for (int coil = 0; coil <= last; coil += last) {
                ArmatureWinding x = Made.armature(poles, slots, perSlot);
                String at = Made.name(poles, slots, perSlot) + "coil " + coil;
                Due.due(at + " closed, close", x.setOpen(coil, false), 0);
                Due.due(at + " closed, open", x.setOpen(coil, true), 0);
                Due.due(at + " open, open", x.setOpen(coil, true), 1);
                Due.due(at + " the other", x.setOpen(last - coil, false), 0);
                Due.due(at + " open, close", x.setOpen(coil, false), 1);
                Due.due(at + " closed again, close", x.setOpen(coil, false), 0);
            }
        });
    }

    private static void changesLeaveTheWinding() {
        Due.begin("4, 5: sets the chording, opens a coil or closes it again, and nothing else");
        Made.atEachWinding(4, 15, 1, (type, plex, progressive) -> {
            String at = type + " " + plex + " " + progressive + ", ";
            ArmatureWinding x = Made.wound(Made.armature(4, 15, 1), type, plex, progressive);
            long digest = x.digest();
            for (int chording = 1; chording <= 5; chording++) {
                Made.chorded(x, chording);
            }
            Due.due(at + "chorded, no coil open", x.closedCircuits(), x.circuitCount());
            Made.allOpened(x);
            Due.due(at + "all opened, chording", x.setChording(0), 5);
            for (int coil = 0; coil < 15; coil++) {
                Due.due(at + "coil " + coil + " stayed open", x.setOpen(coil, false), 1);
            }
            Due.due(at + "and all back", x.digest(), digest);
        });
    }

    // ---- 12 openCoilsIn

    private static void openCoilsNoneAndAll() {
        Due.begin("12: counts the open coils with a side in a slot, none and all");
        Made.atEachArmature((poles, slots, perSlot) -> {
            String at = Made.name(poles, slots, perSlot);
            ArmatureWinding none = Made.armature(poles, slots, perSlot);
            ArmatureWinding all = Made.allOpened(Made.armature(poles, slots, perSlot));
            for (int slot = 0; slot < slots; slot++) {
                Due.due(at + "none open, slot " + slot, none.openCoilsIn(slot), 0);
                // As many upper sides as lower sides are in a slot.
                Due.due(at + "all open, slot " + slot, all.openCoilsIn(slot), 2 * perSlot);
            }
        });
    }

    private static void openCoilsWithBothSides() {
        Due.begin("12: a coil with both sides in the slot counts once");
        // No coil has both: the slot pitch is 1 at least and half of the slots at most.
        Made.atEachArmature((poles, slots, perSlot) -> {
            for (int chording = 0; chording <= 5; chording += 5) {
                ArmatureWinding x = Made.chorded(Made.opened(Made.armature(poles, slots, perSlot), slots * perSlot - 1), chording);
                int sides = 0;
                for (int slot = 0; slot < slots; slot++) {
                    Due.due(Made.name(poles, slots, perSlot) + slot, x.openCoilsIn(slot) <= 1, true);
                    sides += x.openCoilsIn(slot);
                }
                Due.due(Made.name(poles, slots, perSlot) + "sides of one coil", sides, 2);
            }
        });
    }

    // ---- 13 to 16 circuits

    private static void circuitCountNoneAndAll() {
        Due.begin("13: returns the number of circuits");
        int[][] counts = {
            // poles, slots, coils per slot, type, plex, progressive, circuits
            {2, 2, 1, LAP, 1, 1, 1}, {2, 2, 1, LAP, 2, 1, 2}, {2, 2, 1, LAP, 3, 1, 1}, {2, 2, 1, WAVE, 2, 0, 2},
            {2, 2, 1, WAVE, 3, 0, 1}, {2, 3, 1, LAP, 3, 0, 3}, {2, 3, 1, WAVE, 3, 0, 3}, {2, 3, 1, LAP, 2, 1, 1},
            {8, 24, 3, LAP, 1, 0, 1}, {8, 24, 3, LAP, 2, 0, 2}, {8, 24, 3, LAP, 3, 1, 3}, {2, 24, 3, WAVE, 3, 1, 3},
            {2, 23, 3, LAP, 2, 1, 1}, {2, 23, 3, LAP, 3, 1, 3}, {4, 24, 3, WAVE, 2, 1, 1}, {6, 24, 3, WAVE, 3, 0, 1},
        };
        for (int[] c : counts) {
            ArmatureWinding x = Made.wound(Made.armature(c[0], c[1], c[2]), c[3], c[4], c[5] == 1);
            String at = Made.name(c[0], c[1], c[2]) + c[3] + " " + c[4] + " " + c[5];
            Due.due(at, x.circuitCount(), c[6]);
            Made.allOpened(x);
            Due.due(at + ", all open", x.circuitCount(), c[6]);
        }
    }

    private static void circuitNumbers() {
        Due.begin("15: NO_SUCH_ITEM if the circuit does not exist");
        Made.atEachArmature((poles, slots, perSlot) -> Made.atEachWinding(poles, slots, perSlot, (type, plex, progressive) -> {
            ArmatureWinding x = Made.wound(Made.armature(poles, slots, perSlot), type, plex, progressive);
            String at = Made.name(poles, slots, perSlot) + type + " " + plex + " " + progressive + ", circuit ";
            int count = x.circuitCount();
            Due.due(at + "0", x.coilAt(0, 0), 0);
            Due.due(at + (count - 1), x.coilAt(count - 1, 0), count - 1);
            int[] wrong = {MIN, -1, count, count + 1, MAX};
            for (int circuit : wrong) {
                Due.due(at + circuit, x.coilAt(circuit, 0), NO_ITEM);
            }
        }));
    }

    private static void places() {
        Due.begin("15: NONE if the circuit has no such place");
        int[][] lengths = {
            // poles, slots, coils per slot, type, plex, progressive, coils of a circuit
            {2, 2, 1, LAP, 1, 1, 2}, {2, 2, 1, LAP, 2, 1, 1}, {2, 2, 1, WAVE, 2, 0, 1}, {4, 12, 1, LAP, 3, 0, 4},
            {8, 24, 3, LAP, 1, 1, 72}, {8, 24, 3, LAP, 1, 0, 72}, {8, 24, 3, LAP, 3, 1, 24}, {4, 24, 3, WAVE, 2, 1, 72},
        };
        for (int[] c : lengths) {
            ArmatureWinding x = Made.wound(Made.armature(c[0], c[1], c[2]), c[3], c[4], c[5] == 1);
            String at = Made.name(c[0], c[1], c[2]) + c[3] + " " + c[4] + " " + c[5] + ", place ";
            for (int circuit = 0; circuit < x.circuitCount(); circuit++) {
                Due.due(at + "0", x.coilAt(circuit, 0), circuit);
                Due.due(at + "last", x.endBar(x.coilAt(circuit, c[6] - 1)), circuit);
                int[] wrong = {MIN, -1, c[6], c[6] + 1, MAX};
                for (int place : wrong) {
                    Due.due(at + place, x.coilAt(circuit, place), NONE);
                }
            }
        }
    }

    private static void closedCircuitsNoneAndAll() {
        Due.begin("16: counts the circuits that are closed: those without an open coil");
        Made.atEachArmature((poles, slots, perSlot) -> Made.atEachWinding(poles, slots, perSlot, (type, plex, progressive) -> {
            String at = Made.name(poles, slots, perSlot) + type + " " + plex + " " + progressive;
            ArmatureWinding x = Made.wound(Made.armature(poles, slots, perSlot), type, plex, progressive);
            Due.due(at + ", none open", x.closedCircuits(), x.circuitCount());
            for (int coil = 0; coil < slots * perSlot; coil++) {
                Made.opened(x, coil);
                Due.due(at + ", coil " + coil + " open", x.closedCircuits(), x.circuitCount() - 1);
                x.setOpen(coil, false);
            }
            Due.due(at + ", all open", Made.allOpened(x).closedCircuits(), 0);
        }));
    }

    // ---- 17 to 20 brushes and paths

    private static void brushNumbers() {
        Due.begin("17: NO_SUCH_ITEM if the brush does not exist");
        for (int poles = 2; poles <= 8; poles += 2) {
            ArmatureWinding x = Made.armature(poles, 24, 3);
            Due.due(poles + " poles, brush 0", x.brushBar(0), 0);
            Due.due(poles + " poles, last brush", x.brushBar(poles - 1), 72 - 72 / poles);
            int[] wrong = {MIN, -1, poles, poles + 1, MAX};
            for (int brush : wrong) {
                Due.due(poles + " poles, brushBar " + brush, x.brushBar(brush), NO_ITEM);
                Due.due(poles + " poles, pathLength " + brush, x.pathLength(brush), NO_ITEM);
                Due.due(poles + " poles, pathEnd " + brush, x.pathEnd(brush), NO_ITEM);
            }
        }
    }

    private static void oneBrushOnABar() {
        Due.begin("18: the brush on a bar; NONE if no brush stands on the bar");
        Made.atEachArmature((poles, slots, perSlot) -> {
            ArmatureWinding x = Made.armature(poles, slots, perSlot);
            String at = Made.name(poles, slots, perSlot);
            int brush = 0;
            for (int bar = 0; bar < slots * perSlot; bar++) {
                boolean stands = x.brushBar(brush) == bar;
                Due.due(at + "bar " + bar, x.brushOn(bar), stands ? brush : NONE);
                brush += stands ? 1 : 0;
            }
            Due.due(at + "brushes", brush, poles);
        });
        ArmatureWinding shrunk = Made.largest();
        shrunk.setArmature(2, 24, 3);
        Due.due("no brush of an earlier armature", shrunk.brushOn(9), NONE);
        shrunk.setArmature(2, 2, 1);
        Due.due("no bar of an earlier armature", shrunk.brushOn(2), NO_ITEM);
    }

    private static void pathsOfOpenCoils() {
        Due.begin("19, 20: a broken path keeps its length and its end");
        Made.atEachWinding(4, 15, 1, (type, plex, progressive) -> {
            ArmatureWinding whole = Made.wound(Made.armature(4, 15, 1), type, plex, progressive);
            ArmatureWinding broken = Made.allOpened(Made.wound(Made.armature(4, 15, 1), type, plex, progressive));
            for (int brush = 0; brush < 4; brush++) {
                String at = type + " " + plex + " " + progressive + ", " + brush;
                Due.due(at + ", length", broken.pathLength(brush), whole.pathLength(brush));
                Due.due(at + ", end", broken.pathEnd(brush), whole.pathEnd(brush));
            }
        });
    }

    // ---- 21 to 24 voltages

    private static void turnOfCoilVoltage() {
        Due.begin("21: turn: 0 to 100");
        for (ArmatureWinding x : new ArmatureWinding[] {new ArmatureWinding(), Made.smallest(), Made.largest()}) {
            Due.due("turn 0", x.coilVoltage(0, 0), 2);
            // 100 turns leave 4 of 12 slots, 0 of 2 and 4 of 24.
            Due.due("turn 100", x.coilVoltage(0, 100), x.coilCount() == 2 ? 2 : -2);
            for (int turn : WRONG_TURNS) {
                Due.due("turn " + turn, x.coilVoltage(0, turn), OUT);
            }
        }
    }

    private static void turnOfPathVoltage() {
        Due.begin("22: turn: 0 to 100");
        int[][] answers = {
            // poles, slots, coils per slot, path of brush 0 at turn 0 and at turn 100
            {4, 12, 1, 6, -2}, {2, 2, 1, 2, 2}, {8, 24, 3, 18, -6}, {2, 24, 3, 72, 24},
        };
        for (int[] a : answers) {
            ArmatureWinding x = Made.armature(a[0], a[1], a[2]);
            Due.due(Made.name(a[0], a[1], a[2]) + "turn 0", x.pathVoltage(0, 0), a[3]);
            Due.due(Made.name(a[0], a[1], a[2]) + "turn 100", x.pathVoltage(0, 100), a[4]);
            for (int turn : WRONG_TURNS) {
                Due.due(Made.name(a[0], a[1], a[2]) + "turn " + turn, x.pathVoltage(0, turn), OUT);
            }
        }
    }

    private static void turnOfIsBalanced() {
        Due.begin("23: turn: 0 to 100");
        // 5 slots are balanced at the turns 1 and 2 of 5.
        ArmatureWinding x = Made.armature(4, 5, 1);
        for (int turn = 0; turn <= 100; turn++) {
            Due.due("turn " + turn, x.isBalanced(turn), turn % 5 == 1 || turn % 5 == 2 ? 1 : 0);
        }
        for (int turn : WRONG_TURNS) {
            Due.due("turn " + turn, x.isBalanced(turn), OUT);
            Due.due("turn " + turn + " without paths", Made.allOpened(Made.smallest()).isBalanced(turn), OUT);
        }
    }

    private static void balancedUpToTheSign() {
        Due.begin("23: voltages of equal size, that is, equal up to the sign");
        ArmatureWinding x = new ArmatureWinding();
        Due.due("one is +", x.pathVoltage(0, 0), 6);
        Due.due("another is -", x.pathVoltage(1, 0), -6);
        Due.due("balanced", x.isBalanced(0), 1);
        // 8 poles of 9 slots: the paths have 0, 2, -2, 2, -2, 2, -2 and 0.
        ArmatureWinding nine = Made.armature(8, 9, 1);
        Due.due("0 and 2", nine.isBalanced(0), 0);
        Made.opened(nine, 0);
        Due.due("the only 0 is the last brush's", nine.pathVoltage(7, 0), 0);
        Due.due("2 and at last 0", nine.isBalanced(0), 0);
        Made.opened(nine, 7);
        Due.due("2 and -2", nine.isBalanced(0), 1);
        nine.setOpen(0, false);
        Due.due("the only 0 is the first brush's", nine.pathVoltage(0, 0), 0);
        Due.due("at first 0 and then 2", nine.isBalanced(0), 0);
    }

    private static void balancedBySomePathsOnly() {
        Due.begin("23: all paths that are not broken and that lead to a brush of the other polarity");
        // Brushes 1 and 2 lead across by 10 and -12; 0 and 3 lead to their own polarity by 0 and 2.
        ArmatureWinding x = Made.wound(Made.armature(4, 15, 1), WAVE, 1, false);
        Due.due("10 and -12", x.isBalanced(0), 0);
        Made.opened(x, 7);
        Due.due("1 or 2 is broken", x.isBalanced(0), 1);
        Due.due("0 is not broken", x.pathVoltage(0, 0), 0);
        Due.due("3 is not broken", x.pathVoltage(3, 0), 2);
        // Each brush leads to itself by three coils.
        ArmatureWinding alone = Made.wound(Made.armature(2, 9, 1), LAP, 3, true);
        Due.due("0 leads to itself", alone.pathVoltage(0, 0), 0);
        Due.due("1 leads to itself", alone.pathVoltage(1, 0), 2);
        Due.due("neither counts", alone.isBalanced(0), 1);
    }

    private static void balancedWithoutPaths() {
        Due.begin("23: without such paths they are balanced");
        for (int turn = 0; turn <= 100; turn += 50) {
            Due.due("all open, 5 slots", Made.allOpened(Made.armature(4, 5, 1)).isBalanced(turn), 1);
            Due.due("all open, smallest", Made.allOpened(Made.smallest()).isBalanced(turn), 1);
            Due.due("all open, largest", Made.allOpened(Made.largest()).isBalanced(turn), 1);
            Due.due("pitch 0", Made.wound(Made.smallest(), WAVE, 2, false).isBalanced(turn), 1);
        }
        ArmatureWinding one = Made.opened(Made.armature(4, 5, 1), 1, 2, 3);
        Due.due("one path left", one.isBalanced(0), 1);
    }

    private static void turnsFromZeroToLast() {
        Due.begin("24: counts the turns from 0 to S - 1 at which the voltages are balanced");
        Due.due("all of 12", new ArmatureWinding().balancedTurns(), 12);
        Due.due("all of the smallest", Made.smallest().balancedTurns(), 2);
        Due.due("all of the largest", Made.largest().balancedTurns(), 24);
        Due.due("all of the largest, none counts", Made.allOpened(Made.largest()).balancedTurns(), 24);
        Due.due("none of 5", Made.armature(4, 5, 2).balancedTurns(), 0);
        Due.due("2 of 5", Made.armature(4, 5, 1).balancedTurns(), 2);
        Made.atEachArmature((poles, slots, perSlot) -> Made.atEachWinding(poles, slots, perSlot, (type, plex, progressive) -> {
            ArmatureWinding x = Made.wound(Made.armature(poles, slots, perSlot), type, plex, progressive);
            int count = 0;
            for (int turn = 0; turn < slots; turn++) {
                count += x.isBalanced(turn);
            }
            Due.due(Made.name(poles, slots, perSlot) + type + " " + plex + " " + progressive, x.balancedTurns(), count);
        }));
    }

    // ---- 25 resistance

    private static void resistanceWithoutPaths() {
        Due.begin("25: NONE if no path counts");
        Due.due("all open, first", Made.allOpened(new ArmatureWinding()).resistance(), NONE);
        Due.due("all open, smallest", Made.allOpened(Made.smallest()).resistance(), NONE);
        Due.due("all open, largest", Made.allOpened(Made.largest()).resistance(), NONE);
        Due.due("each brush leads to itself", Made.wound(Made.smallest(), LAP, 2, true).resistance(), NONE);
        Due.due("each brush leads to its polarity", Made.wound(new ArmatureWinding(), LAP, 2, true).resistance(), NONE);
        ArmatureWinding one = Made.opened(Made.smallest(), 0);
        Due.due("one path left", one.resistance(), Made.bits(1.0));
        Due.due("none left", Made.opened(one, 1).resistance(), NONE);
        one.setOpen(0, false);
        Due.due("one is whole again", one.resistance(), Made.bits(1.0));
    }

    private static void resistanceInOrder() {
        Due.begin("25: g increases for each path that counts, in ascending order of the brushes");
        double six = 1.0 / 6;
        // The other order is rounded to another double.
        Due.due("the other order differs",
            Made.bits(1.0 / (1.0 + 1.0 + 1.0 + six)) != Made.bits(1.0 / (six + 1.0 + 1.0 + 1.0)), true);
        Due.due("6 coils last", Made.wound(Made.armature(4, 9, 1), LAP, 2, true).resistance(),
            Made.bits(1.0 / (0.0 + 1.0 + 1.0 + 1.0 + six)));
        Due.due("6 coils first", Made.wound(Made.armature(4, 9, 1), LAP, 2, false).resistance(),
            Made.bits(1.0 / (0.0 + six + 1.0 + 1.0 + 1.0)));
        // Bars 0, 17, 34 and 51 of 69.
        double seventeenth = 1.0 / 17, eighteenth = 1.0 / 18;
        Due.due("17, 17, 17 and 18", Made.armature(4, 23, 3).resistance(),
            Made.bits(1.0 / (0.0 + seventeenth + seventeenth + seventeenth + eighteenth)));
    }

    private static void resistanceLeastAndMost() {
        Due.begin("25: returns Double.doubleToLongBits of 1.0 / g");
        Due.due("eight paths of 1", Made.armature(8, 8, 1).resistance(), Made.bits(0.125));
        Due.due("four paths of 1", Made.armature(4, 4, 1).resistance(), Made.bits(0.25));
        Due.due("two paths of 1", Made.smallest().resistance(), Made.bits(0.5));
        Due.due("one path of 52", Made.opened(Made.wound(Made.armature(2, 23, 3), LAP, 2, true), 0).resistance(),
            Made.bits(1.0 / (0.0 + 1.0 / 52)));
        Due.due("eight paths of 9", Made.largest().resistance(), Made.bits(1.0 / timesOver(8, 1.0 / 9)));
        for (int left = 1; left <= 8; left++) {
            ArmatureWinding x = Made.armature(8, 24, 1);
            for (int brush = left; brush < 8; brush++) {
                Made.opened(x, 3 * brush);
            }
            Due.due(left + " paths of 3", x.resistance(), Made.bits(1.0 / timesOver(left, 1.0 / 3)));
        }
        for (int slots = 2; slots <= 24; slots++) {
            // The shorter half of a lap alone, 1 to 36 coils.
            Due.due("one path of " + slots * 3 / 2, Made.opened(Made.armature(2, slots, 3), slots * 3 - 1).resistance(),
                Made.bits(1.0 / (0.0 + 1.0 / (slots * 3 / 2))));
        }
    }

    private static double timesOver(int count, double part) {
        double sum = 0.0;
        for (int i = 0; i < count; i++) {
            sum += part;
        }
        return sum;
    }

    // ---- 26 equalizerBar

    private static void equalizerGoesRound() {
        Due.begin("26: returns (bar + 2 * C / P) mod C");
        int[][] bars = {
            // poles, slots, coils per slot, bar, equalizer
            {4, 12, 1, 0, 6}, {4, 12, 1, 5, 11}, {4, 12, 1, 6, 0}, {4, 12, 1, 11, 5},
            {2, 2, 1, 0, 0}, {2, 2, 1, 1, 1}, {2, 24, 3, 0, 0}, {2, 24, 3, 71, 71},
            {8, 24, 3, 0, 18}, {8, 24, 3, 53, 71}, {8, 24, 3, 54, 0}, {8, 24, 3, 71, 17},
            {6, 9, 1, 5, 8}, {6, 9, 1, 6, 0}, {6, 9, 1, 8, 2}, {4, 4, 1, 1, 3}, {4, 4, 1, 2, 0}, {4, 4, 1, 3, 1},
        };
        for (int[] b : bars) {
            Due.due(Made.name(b[0], b[1], b[2]) + b[3], Made.armature(b[0], b[1], b[2]).equalizerBar(b[3]), b[4]);
        }
    }

    private static void equalizerDivides() {
        Due.begin("26: NONE if P does not divide 2 * C");
        int[][] refused = {
            // poles and slots: the division leaves 2, 4 or 6
            {4, 5}, {4, 7}, {4, 23}, {6, 7}, {6, 8}, {6, 10}, {6, 11}, {6, 23}, {8, 9}, {8, 10}, {8, 11}, {8, 13}, {8, 23},
        };
        for (int[] r : refused) {
            int last = r[1] - 1;
            Due.due(Made.name(r[0], r[1], 1) + "bar 0", Made.armature(r[0], r[1], 1).equalizerBar(0), NONE);
            Due.due(Made.name(r[0], r[1], 1) + "last bar", Made.armature(r[0], r[1], 1).equalizerBar(last), NONE);
            Due.due(Made.name(r[0], r[1], 1) + "no bar", Made.armature(r[0], r[1], 1).equalizerBar(r[1]), NO_ITEM);
        }
        Made.atEachArmature((poles, slots, perSlot) -> {
            int answer = Made.armature(poles, slots, perSlot).equalizerBar(0);
            int steps = NONE;
            for (int far = 1; far <= 72; far++) {
                steps = far * poles == 2 * slots * perSlot ? far : steps;
            }
            int want = steps == slots * perSlot ? 0 : steps;
            Due.due(Made.name(poles, slots, perSlot) + "bar 0", answer, want);
        });
    }

    // ---- 27 digest

    private static long hashOf(long start, long... values) {
        long hash = start;
        for (long value : values) {
            hash = 31 * hash + value;
        }
        return hash;
    }

    /** Goes on from the slot pitch with what the object answers, in the order of the document. */
    private static long hashOfTheRest(long start, ArmatureWinding x, boolean[] open) {
        long hash = start;
        int poles = 0;
        for (int coil = 0; coil < open.length; coil++) {
            hash = hashOf(hash, x.endBar(coil), x.lowerSlot(coil), x.circuitOf(coil), open[coil] ? 1 : 0);
        }
        hash = hashOf(hash, x.circuitCount(), x.closedCircuits());
        while (poles < 8 && x.brushBar(poles) != NO_ITEM) {
            hash = hashOf(hash, x.brushBar(poles), x.pathLength(poles), x.pathEnd(poles),
                x.pathVoltage(poles, 0), x.pathVoltage(poles, 1));
            poles++;
        }
        return hashOf(hash, x.balancedTurns(), x.resistance(), x.equalizerBar(0));
    }

    private static void digestOfTheFirst() {
        Due.begin("27: the hash starts at 1789, for each value it becomes 31 * hash + v");
        Due.due("smallest", Made.smallest().digest(), hashOf(1789,
            2, 2, 2, LAP, 1, 1, 1, 0, 1,
            1, 1, 0, 0, 0, 0, 0, 0,
            1, 1,
            0, 1, 1, 2, -2, 1, 1, 0, -2, 2,
            2, Made.bits(0.5), 0));
        Due.due("first", new ArmatureWinding().digest(), hashOf(1789,
            4, 12, 12, LAP, 1, 1, 1, 0, 3,
            1, 3, 0, 0, 2, 4, 0, 0, 3, 5, 0, 0, 4, 6, 0, 0, 5, 7, 0, 0, 6, 8, 0, 0,
            7, 9, 0, 0, 8, 10, 0, 0, 9, 11, 0, 0, 10, 0, 0, 0, 11, 1, 0, 0, 0, 2, 0, 0,
            1, 1,
            0, 3, 1, 6, 2, 3, 3, 2, -6, -2, 6, 3, 3, 6, 2, 9, 3, 0, -6, -2,
            12, Made.bits(1.0 / timesOver(4, 1.0 / 3)), 6));
    }

    private static void digestOfErrorCodes() {
        Due.begin("27: where a method returns an error code, the code is the value");
        Due.due("all open", Made.allOpened(Made.smallest()).digest(), hashOf(1789,
            2, 2, 2, LAP, 1, 1, 1, 0, 1,
            1, 1, 0, 1, 0, 0, 0, 1,
            1, 0,
            0, 1, 1, BROKEN, BROKEN, 1, 1, 0, BROKEN, BROKEN,
            2, NONE, 0));
        Due.due("no equalizer", Made.armature(4, 5, 1).digest(), hashOf(1789,
            4, 5, 5, LAP, 1, 1, 1, 0, 1,
            1, 1, 0, 0, 2, 2, 0, 0, 3, 3, 0, 0, 4, 4, 0, 0, 0, 0, 0, 0,
            1, 1,
            0, 1, 1, 0, 2, 1, 1, 2, 2, -2, 2, 1, 3, -2, 2, 3, 2, 0, 0, -2,
            2, Made.bits(1.0 / 3.5), NONE));
    }

    private static void digestOfAll() {
        Due.begin("27: in long arithmetic with overflow");
        Made.atEachArmature((poles, slots, perSlot) -> Made.atEachWinding(poles, slots, perSlot, (type, plex, progressive) -> {
            ArmatureWinding x = Made.armature(poles, slots, perSlot);
            int coils = slots * perSlot;
            int pitch = x.setWinding(type, plex, progressive);
            int chording = (slots + plex) % 6;
            Made.chorded(x, chording);
            boolean[] open = new boolean[coils];
            open[coils - 1] = progressive;
            x.setOpen(coils - 1, progressive);
            long start = hashOf(1789, poles, slots, coils, type, plex, progressive ? 1 : 0, pitch, chording, x.slotPitch());
            String at = Made.name(poles, slots, perSlot) + type + " " + plex + " " + progressive;
            Due.due(at, x.digest(), hashOfTheRest(start, x, open));
        }));
    }
}
