/**
 * Each promise of the document, by answers worked out by hand: ordinary inputs, edges, wrong inputs.
 * What a refused call leaves, and which of several errors is returned, is RefusalTest's.
 */
public final class PromiseTest {
    private static final int LAP = 0, WAVE = 1;
    private static final int OUT = -1001, NO_ITEM = -1002, NOT_POSSIBLE = -1003, NONE = -1004, BROKEN = -1005;
    private static final int MIN = Integer.MIN_VALUE, MAX = Integer.MAX_VALUE;

    public static void main(String[] args) {
        newObject();
        setArmature();
        setArmatureStartsAnew();
        setWinding();
        setWindingWaves();
        setChording();
        setOpen();
        coilCount();
        slotPitch();
        endBar();
        coilEndingAt();
        upperSlot();
        lowerSlot();
        openCoilsIn();
        circuitCount();
        circuitOf();
        coilAt();
        closedCircuits();
        brushBar();
        brushOn();
        pathLength();
        pathEnd();
        coilVoltage();
        pathVoltage();
        isBalanced();
        balancedTurns();
        resistance();
        equalizerBar();
        digest();
        digestOfErrorCodes();
        Due.end();
    }

    private static void begin(String name) {
        Due.begin(name);
    }

    private static void due(String call, long got, long want) {
        Due.due(call, got, want);
    }

    private static ArmatureWinding armature(int poles, int slots, int coilsPerSlot) {
        ArmatureWinding x = new ArmatureWinding();
        x.setArmature(poles, slots, coilsPerSlot);
        return x;
    }

    /** 3 coils, the wave runs 0, 2, 1; brushes on bars 0 and 1; coil 1 is open; chording 5. */
    private static ArmatureWinding smallWave() {
        ArmatureWinding x = armature(2, 3, 1);
        x.setWinding(WAVE, 1, false);
        x.setChording(5);
        x.setOpen(1, true);
        return x;
    }

    /** 20 coils in the duplex lap 0, 18, 16 .., two circuits, none of its settings the first ones. */
    private static ArmatureWinding usedDuplex() {
        ArmatureWinding x = armature(6, 10, 2);
        x.setWinding(LAP, 2, false);
        x.setChording(1);
        x.setOpen(5, true);
        return x;
    }

    private static void newObject() {
        begin("1 a new object");
        ArmatureWinding x = new ArmatureWinding();
        due("coils", x.coilCount(), 12);
        due("slot pitch", x.slotPitch(), 3);
        due("slot 11", x.openCoilsIn(11), 0);
        due("slot 12", x.openCoilsIn(12), NO_ITEM);
        due("upper slot of coil 1", x.upperSlot(1), 1);
        due("brush 3", x.brushBar(3), 9);
        due("brush 4", x.brushBar(4), NO_ITEM);
        due("progressive lap with plex 1", x.endBar(4), 5);
        due("closed circuits", x.closedCircuits(), 1);
        for (int coil = 0; coil < 12; coil++) {
            due("coil open " + coil, x.setOpen(coil, false), 0);
        }
        due("digest", x.digest(), armature(4, 12, 1).digest());
        due("chording", x.setChording(2), 0);
        x.setOpen(3, true);
        due("another object's chording", new ArmatureWinding().setChording(0), 0);
        due("another object's coil", new ArmatureWinding().setOpen(3, false), 0);
    }

    private static void setArmature() {
        begin("2 setArmature");
        ArmatureWinding x = new ArmatureWinding();
        due("least", x.setArmature(2, 2, 1), 2);
        due("most", x.setArmature(8, 24, 3), 72);
        due("6, 6, 1", x.setArmature(6, 6, 1), 6);
        due("8, 8, 2", x.setArmature(8, 8, 2), 16);
        due("4, 13, 3", x.setArmature(4, 13, 3), 39);
        int[] wrongPoles = {MIN, -2, -1, 0, 1, 3, 5, 7, 9, 10, 12, MAX};
        for (int poles : wrongPoles) {
            due("poles " + poles, x.setArmature(poles, 24, 1), OUT);
        }
        int[][] wrongSlots = {{2, 1}, {4, 3}, {6, 5}, {8, 7}, {2, 25}, {8, 25}, {2, 0}, {2, -2}, {2, MIN}, {2, MAX}};
        for (int[] pair : wrongSlots) {
            due("poles " + pair[0] + ", slots " + pair[1], x.setArmature(pair[0], pair[1], 1), OUT);
        }
        int[] wrongCoils = {MIN, -1, 0, 4, MAX};
        for (int coilsPerSlot : wrongCoils) {
            due("coils per slot " + coilsPerSlot, x.setArmature(4, 12, coilsPerSlot), OUT);
        }
        due("coils after all the errors", x.coilCount(), 39);
    }

    private static void setArmatureStartsAnew() {
        begin("2 setArmature starts anew");
        ArmatureWinding x = usedDuplex();
        due("the same again", x.setArmature(6, 10, 2), 20);
        due("winding", x.endBar(5), 6);
        due("open", x.setOpen(5, false), 0);
        due("slot pitch", x.slotPitch(), 1);
        due("chording", x.setChording(0), 0);
        due("digest", x.digest(), armature(6, 10, 2).digest());

        ArmatureWinding wave = smallWave();
        wave.setArmature(4, 12, 1);
        due("digest after a wave", wave.digest(), new ArmatureWinding().digest());

        ArmatureWinding wide = armature(8, 24, 3);
        wide.setOpen(0, true);
        wide.setOpen(71, true);
        wide.setArmature(2, 2, 1);
        wide.setArmature(8, 24, 3);
        due("first coil of an earlier armature", wide.setOpen(0, false), 0);
        due("last coil of an earlier armature", wide.setOpen(71, false), 0);
    }

    private static void setWinding() {
        begin("3 setWinding");
        ArmatureWinding x = new ArmatureWinding();
        for (int plex = 1; plex <= 3; plex++) {
            due("lap on " + plex, x.setWinding(LAP, plex, true), plex);
            due("lap back " + plex, x.setWinding(LAP, plex, false), -plex);
        }
        due("the coil follows", x.endBar(5), 2);
        int[] wrongTypes = {MIN, -1, 2, MAX};
        for (int type : wrongTypes) {
            due("type " + type, x.setWinding(type, 1, true), OUT);
        }
        int[] wrongPlexes = {MIN, -1, 0, 4, MAX};
        for (int plex : wrongPlexes) {
            due("lap of plex " + plex, x.setWinding(LAP, plex, true), OUT);
            due("wave of plex " + plex, x.setWinding(WAVE, plex, true), OUT);
        }
        due("wave on 12 coils and 4 poles", x.setWinding(WAVE, 1, true), NOT_POSSIBLE);
        due("the winding stays after errors", x.endBar(5), 2);
        x.setOpen(7, true);
        x.setChording(2);
        due("wave of plex 2", x.setWinding(WAVE, 2, true), 7);
        due("the open coil stays", x.setOpen(7, true), 1);
        due("the chording stays", x.setChording(2), 2);
    }

    private static void setWindingWaves() {
        begin("3 setWinding, waves");
        int[][] waves = {
            // poles, slots, plex, progressive, pitch
            {4, 15, 1, 1, 8}, {4, 15, 1, 0, 7}, {4, 15, 2, 1, NOT_POSSIBLE}, {4, 15, 2, 0, NOT_POSSIBLE},
            {4, 15, 3, 1, 9}, {4, 15, 3, 0, 6},
            {2, 2, 1, 1, 3}, {2, 2, 1, 0, 1}, {2, 2, 2, 0, 0}, {2, 2, 3, 0, -1}, {2, 2, 3, 1, 5}, {2, 3, 3, 0, 0},
            {6, 6, 1, 1, NOT_POSSIBLE}, {6, 6, 1, 0, NOT_POSSIBLE}, {6, 6, 2, 1, NOT_POSSIBLE},
            {6, 6, 3, 1, 3}, {6, 6, 3, 0, 1}, {6, 20, 1, 1, 7}, {6, 20, 1, 0, NOT_POSSIBLE}, {6, 20, 2, 0, 6},
            {8, 9, 1, 1, NOT_POSSIBLE}, {8, 9, 1, 0, 2}, {8, 9, 3, 1, 3}, {8, 9, 2, 1, NOT_POSSIBLE},
            {8, 8, 3, 1, NOT_POSSIBLE}, {8, 10, 2, 1, 3}, {8, 10, 2, 0, 2}, {8, 24, 2, 1, NOT_POSSIBLE},
        };
        for (int[] w : waves) {
            due(w[0] + " poles, " + w[1] + " coils, plex " + w[2] + ", " + w[3],
                armature(w[0], w[1], 1).setWinding(WAVE, w[2], w[3] == 1), w[4]);
        }
        due("coils count, not slots", armature(6, 20, 2).setWinding(WAVE, 1, false), 13);
    }

    private static void setChording() {
        begin("4 setChording");
        ArmatureWinding x = armature(2, 24, 1);
        for (int chording = 0; chording <= 5; chording++) {
            due("to " + chording, x.setChording(chording), chording == 0 ? 0 : chording - 1);
            due("slot pitch with " + chording, x.slotPitch(), 12 - chording);
        }
        int[] wrong = {MIN, -1, 6, MAX};
        for (int chording : wrong) {
            due("to " + chording, x.setChording(chording), OUT);
        }
        due("back to 0", x.setChording(0), 5);
        due("slot pitch at the end", x.slotPitch(), 12);
    }

    private static void setOpen() {
        begin("5 setOpen");
        ArmatureWinding x = new ArmatureWinding();
        due("open 0", x.setOpen(0, true), 0);
        due("open 0 again", x.setOpen(0, true), 1);
        due("close 0", x.setOpen(0, false), 1);
        due("close 0 again", x.setOpen(0, false), 0);
        due("open 11", x.setOpen(11, true), 0);
        due("0 is closed", x.closedCircuits(), 0);
        due("11 is open", x.setOpen(11, false), 1);
        due("all are closed", x.closedCircuits(), 1);
        int[] wrong = {MIN, -1, 12, 71, 72, MAX};
        for (int coil : wrong) {
            due("open " + coil, x.setOpen(coil, true), NO_ITEM);
            due("close " + coil, x.setOpen(coil, false), NO_ITEM);
        }
        x.setArmature(8, 24, 3);
        due("coil 12 after the error", x.setOpen(12, false), 0);
        due("last coil", x.setOpen(71, true), 0);
        due("last coil again", x.setOpen(71, true), 1);
        due("coil 72", x.setOpen(72, true), NO_ITEM);
    }

    private static void coilCount() {
        begin("6 coilCount");
        due("first", new ArmatureWinding().coilCount(), 12);
        due("2 slots", armature(2, 2, 1).coilCount(), 2);
        due("17 slots of 3", armature(4, 17, 3).coilCount(), 51);
        due("24 slots of 3", armature(8, 24, 3).coilCount(), 72);
    }

    private static void slotPitch() {
        begin("7 slotPitch");
        due("12 slots, 4 poles", new ArmatureWinding().slotPitch(), 3);
        due("15 slots, 4 poles", armature(4, 15, 2).slotPitch(), 3);
        due("23 slots, 2 poles", armature(2, 23, 3).slotPitch(), 11);
        due("8 slots, 8 poles", armature(8, 8, 3).slotPitch(), 1);
        ArmatureWinding x = armature(4, 20, 1);
        x.setChording(3);
        due("5 chorded by 3", x.slotPitch(), 2);
        x.setChording(4);
        due("5 chorded by 4", x.slotPitch(), 1);
        x.setChording(5);
        due("5 chorded by 5", x.slotPitch(), 1);
        ArmatureWinding least = armature(6, 6, 1);
        least.setChording(5);
        due("1 chorded by 5", least.slotPitch(), 1);
    }

    private static void endBar() {
        begin("8 endBar");
        ArmatureWinding x = new ArmatureWinding();
        due("of 0", x.endBar(0), 1);
        due("of 11, round", x.endBar(11), 0);
        x.setWinding(LAP, 3, false);
        due("of 3, back", x.endBar(3), 0);
        due("of 2, back and round", x.endBar(2), 11);
        x.setWinding(WAVE, 2, true);
        due("of 0, wave", x.endBar(0), 7);
        due("of 8, wave", x.endBar(8), 3);
        int[] wrong = {MIN, -1, 12, MAX};
        for (int coil : wrong) {
            due("of " + coil, x.endBar(coil), NO_ITEM);
        }
        ArmatureWinding pair = armature(2, 2, 1);
        pair.setWinding(LAP, 3, false);
        due("of 0, more than once round back", pair.endBar(0), 1);
        pair.setWinding(LAP, 2, true);
        due("of 1, once round", pair.endBar(1), 1);
        pair.setWinding(WAVE, 3, true);
        due("of 1, three times round", pair.endBar(1), 0);
    }

    private static void coilEndingAt() {
        begin("9 coilEndingAt");
        ArmatureWinding x = new ArmatureWinding();
        due("at 1", x.coilEndingAt(1), 0);
        due("at 0, round", x.coilEndingAt(0), 11);
        x.setWinding(LAP, 3, false);
        due("at 0, back", x.coilEndingAt(0), 3);
        due("at 11, back and round", x.coilEndingAt(11), 2);
        x.setWinding(WAVE, 2, true);
        due("at 3, wave", x.coilEndingAt(3), 8);
        int[] wrong = {MIN, -1, 12, MAX};
        for (int bar : wrong) {
            due("at " + bar, x.coilEndingAt(bar), NO_ITEM);
        }
        ArmatureWinding pair = armature(2, 2, 1);
        pair.setWinding(WAVE, 3, true);
        due("at 0, three times round", pair.coilEndingAt(0), 1);
        pair.setWinding(WAVE, 2, false);
        due("at 1, pitch 0", pair.coilEndingAt(1), 1);
    }

    private static void upperSlot() {
        begin("10 upperSlot");
        ArmatureWinding x = armature(4, 7, 3);
        due("of 0", x.upperSlot(0), 0);
        due("of 2", x.upperSlot(2), 0);
        due("of 3", x.upperSlot(3), 1);
        due("of 20", x.upperSlot(20), 6);
        x.setChording(5);
        x.setWinding(LAP, 2, false);
        due("of 20 in another winding", x.upperSlot(20), 6);
        int[] wrong = {MIN, -1, 21, MAX};
        for (int coil : wrong) {
            due("of " + coil, x.upperSlot(coil), NO_ITEM);
        }
        due("one coil a slot", new ArmatureWinding().upperSlot(11), 11);
        due("two coils a slot", armature(2, 5, 2).upperSlot(9), 4);
    }

    private static void lowerSlot() {
        begin("11 lowerSlot");
        ArmatureWinding x = armature(4, 14, 2);
        due("of 0", x.lowerSlot(0), 3);
        due("of 1", x.lowerSlot(1), 3);
        due("of 21", x.lowerSlot(21), 13);
        due("of 22, round", x.lowerSlot(22), 0);
        due("of 27, round", x.lowerSlot(27), 2);
        x.setChording(2);
        due("of 27, chorded", x.lowerSlot(27), 0);
        due("of 25, chorded", x.lowerSlot(25), 13);
        x.setChording(5);
        due("of 0, least pitch", x.lowerSlot(0), 1);
        int[] wrong = {MIN, -1, 28, MAX};
        for (int coil : wrong) {
            due("of " + coil, x.lowerSlot(coil), NO_ITEM);
        }
    }

    private static void openCoilsIn() {
        begin("12 openCoilsIn");
        ArmatureWinding x = armature(4, 12, 2);
        due("none open", x.openCoilsIn(3), 0);
        x.setOpen(0, true);
        due("upper side", x.openCoilsIn(0), 1);
        due("lower side", x.openCoilsIn(3), 1);
        due("no side", x.openCoilsIn(1), 0);
        x.setOpen(6, true);
        x.setOpen(7, true);
        due("upper and lower sides", x.openCoilsIn(3), 3);
        due("lower sides", x.openCoilsIn(6), 2);
        x.setOpen(0, false);
        due("closed again", x.openCoilsIn(3), 2);
        due("closed again, upper", x.openCoilsIn(0), 0);
        x.setChording(1);
        due("chorded", x.openCoilsIn(5), 2);
        x.setOpen(23, true);
        due("last coil, upper", x.openCoilsIn(11), 1);
        due("last coil, lower", x.openCoilsIn(1), 1);
        int[] wrong = {MIN, -1, 12, 23, MAX};
        for (int slot : wrong) {
            due("in " + slot, x.openCoilsIn(slot), NO_ITEM);
        }
        ArmatureWinding pair = armature(2, 2, 1);
        pair.setOpen(0, true);
        pair.setOpen(1, true);
        due("both coils in slot 0", pair.openCoilsIn(0), 2);
    }

    private static void circuitCount() {
        begin("13 circuitCount");
        ArmatureWinding x = new ArmatureWinding();
        due("plex 1", x.circuitCount(), 1);
        x.setWinding(LAP, 2, true);
        due("plex 2 of 12", x.circuitCount(), 2);
        x.setWinding(LAP, 3, false);
        due("plex 3 of 12", x.circuitCount(), 3);
        ArmatureWinding odd = armature(2, 7, 1);
        odd.setWinding(LAP, 2, true);
        due("plex 2 of 7", odd.circuitCount(), 1);
        ArmatureWinding wave = armature(4, 15, 1);
        wave.setWinding(WAVE, 3, true);
        due("wave of pitch 9 and 15 coils", wave.circuitCount(), 3);
        wave.setWinding(WAVE, 1, true);
        due("wave of pitch 8 and 15 coils", wave.circuitCount(), 1);
        ArmatureWinding pair = armature(2, 2, 1);
        pair.setWinding(WAVE, 2, false);
        due("pitch 0", pair.circuitCount(), 2);
        pair.setWinding(LAP, 2, true);
        due("pitch C", pair.circuitCount(), 2);
        ArmatureWinding big = armature(8, 24, 3);
        big.setWinding(LAP, 3, true);
        big.setOpen(0, true);
        due("plex 3 of 72", big.circuitCount(), 3);
    }

    private static void circuitOf() {
        begin("14 circuitOf");
        ArmatureWinding x = new ArmatureWinding();
        due("of 11, plex 1", x.circuitOf(11), 0);
        x.setWinding(LAP, 3, false);
        due("of 0", x.circuitOf(0), 0);
        due("of 1", x.circuitOf(1), 1);
        due("of 2", x.circuitOf(2), 2);
        due("of 10", x.circuitOf(10), 1);
        due("of 11", x.circuitOf(11), 2);
        int[] wrong = {MIN, -1, 12, MAX};
        for (int coil : wrong) {
            due("of " + coil, x.circuitOf(coil), NO_ITEM);
        }
        ArmatureWinding wave = armature(4, 15, 1);
        wave.setWinding(WAVE, 3, true);
        due("of 9, wave 0 9 3 12 6", wave.circuitOf(9), 0);
        due("of 14, wave 2 11 5 14 8", wave.circuitOf(14), 2);
    }

    private static void coilAt() {
        begin("15 coilAt");
        ArmatureWinding x = armature(4, 15, 1);
        x.setWinding(WAVE, 3, true);
        int[][] circuits = {{0, 9, 3, 12, 6}, {1, 10, 4, 13, 7}, {2, 11, 5, 14, 8}};
        for (int circuit = 0; circuit < 3; circuit++) {
            for (int place = 0; place < 5; place++) {
                due(circuit + ", " + place, x.coilAt(circuit, place), circuits[circuit][place]);
            }
            due(circuit + ", 5", x.coilAt(circuit, 5), NONE);
            due(circuit + ", -1", x.coilAt(circuit, -1), NONE);
            due(circuit + ", least", x.coilAt(circuit, MIN), NONE);
            due(circuit + ", most", x.coilAt(circuit, MAX), NONE);
        }
        due("3, 0", x.coilAt(3, 0), NO_ITEM);
        due("-1, 0", x.coilAt(-1, 0), NO_ITEM);
        due("3, 5", x.coilAt(3, 5), NO_ITEM);
        due("least, least", x.coilAt(MIN, MIN), NO_ITEM);
        due("most, most", x.coilAt(MAX, MAX), NO_ITEM);
        ArmatureWinding back = new ArmatureWinding();
        back.setWinding(LAP, 2, false);
        due("1, 1 of a lap back", back.coilAt(1, 1), 11);
        due("1, 5 of a lap back", back.coilAt(1, 5), 3);
        due("0, 6 of a lap back", back.coilAt(0, 6), NONE);
    }

    private static void closedCircuits() {
        begin("16 closedCircuits");
        ArmatureWinding x = armature(4, 15, 1);
        x.setWinding(WAVE, 3, true);
        due("none open", x.closedCircuits(), 3);
        x.setOpen(14, true);
        due("one open", x.closedCircuits(), 2);
        x.setOpen(2, true);
        due("two of a circuit open", x.closedCircuits(), 2);
        x.setOpen(0, true);
        due("of two circuits", x.closedCircuits(), 1);
        x.setOpen(7, true);
        due("of all circuits", x.closedCircuits(), 0);
        x.setOpen(14, false);
        x.setOpen(2, false);
        due("closed again", x.closedCircuits(), 1);
        x.setWinding(WAVE, 1, true);
        due("one circuit", x.closedCircuits(), 0);
    }

    private static void brushBar() {
        begin("17 brushBar");
        int[] bars = {0, 1, 3, 4, 6, 7, 9, 10};
        ArmatureWinding x = armature(8, 12, 1);
        for (int brush = 0; brush < 8; brush++) {
            due("of " + brush, x.brushBar(brush), bars[brush]);
        }
        int[] wrong = {MIN, -1, 8, MAX};
        for (int brush : wrong) {
            due("of " + brush, x.brushBar(brush), NO_ITEM);
        }
        due("2 of 4 on 51 bars", armature(4, 17, 3).brushBar(2), 25);
        due("1 of 2 on 3 bars", armature(2, 3, 1).brushBar(1), 1);
        due("2 of 2", armature(2, 3, 1).brushBar(2), NO_ITEM);
        due("7 of 8 on 72 bars", armature(8, 24, 3).brushBar(7), 63);
    }

    private static void brushOn() {
        begin("18 brushOn");
        int[] brushes = {0, 1, NONE, 2, 3, NONE, 4, 5, NONE, 6, 7, NONE};
        ArmatureWinding x = armature(8, 12, 1);
        for (int bar = 0; bar < 12; bar++) {
            due("bar " + bar, x.brushOn(bar), brushes[bar]);
        }
        int[] wrong = {MIN, -1, 12, 71, 72, MAX};
        for (int bar : wrong) {
            due("bar " + bar, x.brushOn(bar), NO_ITEM);
        }
        x.setArmature(2, 12, 1);
        due("bar 1 of the next armature", x.brushOn(1), NONE);
        due("bar 6 of the next armature", x.brushOn(6), 1);
        due("last bar of 72", armature(8, 24, 3).brushOn(71), NONE);
        due("bar 63 of 72", armature(8, 24, 3).brushOn(63), 7);
    }

    private static void pathLength() {
        begin("19 pathLength");
        ArmatureWinding x = armature(4, 15, 1);
        x.setWinding(WAVE, 1, true);
        int[] lengths = {6, 1, 1, 7};
        for (int brush = 0; brush < 4; brush++) {
            due("of " + brush, x.pathLength(brush), lengths[brush]);
        }
        x.setOpen(0, true);
        due("of a broken path", x.pathLength(0), 6);
        int[] wrong = {MIN, -1, 4, MAX};
        for (int brush : wrong) {
            due("of " + brush, x.pathLength(brush), NO_ITEM);
        }
        ArmatureWinding pair = armature(2, 2, 1);
        pair.setWinding(WAVE, 2, false);
        due("with pitch 0", pair.pathLength(1), 1);
        due("half of 72", armature(2, 24, 3).pathLength(1), 36);
        ArmatureWinding alone = armature(2, 6, 1);
        alone.setWinding(LAP, 2, true);
        due("round to the brush itself", alone.pathLength(1), 3);
    }

    private static void pathEnd() {
        begin("20 pathEnd");
        ArmatureWinding x = armature(4, 15, 1);
        x.setWinding(WAVE, 1, true);
        int[] ends = {1, 3, 0, 2};
        for (int brush = 0; brush < 4; brush++) {
            due("of " + brush, x.pathEnd(brush), ends[brush]);
        }
        x.setOpen(0, true);
        due("of a broken path", x.pathEnd(0), 1);
        int[] wrong = {MIN, -1, 4, MAX};
        for (int brush : wrong) {
            due("of " + brush, x.pathEnd(brush), NO_ITEM);
        }
        ArmatureWinding pair = armature(2, 2, 1);
        pair.setWinding(WAVE, 2, false);
        due("with pitch 0", pair.pathEnd(1), 1);
        ArmatureWinding back = armature(6, 12, 1);
        back.setWinding(LAP, 1, false);
        due("of 0, back", back.pathEnd(0), 5);
        due("of 5, back", back.pathEnd(5), 4);
        ArmatureWinding alone = armature(2, 6, 1);
        alone.setWinding(LAP, 2, true);
        due("at the brush itself", alone.pathEnd(1), 1);
    }

    private static void coilVoltage() {
        begin("21 coilVoltage");
        // 5 slots under 4 poles: + + - + -
        ArmatureWinding x = armature(4, 5, 1);
        int[][] voltages = {{0, 2, -2, 2, -2}, {2, -2, 2, -2, 0}, {-2, 2, -2, 0, 2}, {2, -2, 0, 2, -2}, {-2, 0, 2, -2, 2}};
        for (int turn = 0; turn < 5; turn++) {
            for (int coil = 0; coil < 5; coil++) {
                due(coil + " at turn " + turn, x.coilVoltage(coil, turn), voltages[turn][coil]);
            }
        }
        due("turn 100", x.coilVoltage(1, 100), 2);
        due("turn 99", x.coilVoltage(1, 99), 0);
        x.setOpen(1, true);
        due("of an open coil", x.coilVoltage(1, 0), 2);
        int[] wrong = {MIN, -1, 5, MAX};
        for (int coil : wrong) {
            due("of " + coil, x.coilVoltage(coil, 0), NO_ITEM);
            due("of " + coil + ", wrong turn", x.coilVoltage(coil, 101), NO_ITEM);
        }
        int[] wrongTurns = {MIN, -1, 101, MAX};
        for (int turn : wrongTurns) {
            due("turn " + turn, x.coilVoltage(0, turn), OUT);
        }
        ArmatureWinding chorded = new ArmatureWinding();
        due("full pitch", chorded.coilVoltage(0, 0), 2);
        chorded.setChording(1);
        due("chorded", chorded.coilVoltage(0, 0), 0);
        due("two coils a slot", armature(4, 12, 2).coilVoltage(7, 0), -2);
    }

    private static void pathVoltage() {
        begin("22 pathVoltage");
        ArmatureWinding x = new ArmatureWinding();
        int[] still = {6, -6, 6, -6};
        for (int brush = 0; brush < 4; brush++) {
            due(brush + " at turn 0", x.pathVoltage(brush, 0), still[brush]);
            due(brush + " at turn 1", x.pathVoltage(brush, 1), still[brush] / 3);
            due(brush + " at turn 2", x.pathVoltage(brush, 2), -still[brush] / 3);
            due(brush + " at turn 3", x.pathVoltage(brush, 3), -still[brush]);
            // 100 turns by 12 slots leave 4: turn 1 under the poles of the other polarity.
            due(brush + " at turn 100", x.pathVoltage(brush, 100), -still[brush] / 3);
        }
        x.setOpen(3, true);
        due("broken at its first coil", x.pathVoltage(1, 0), BROKEN);
        x.setOpen(3, false);
        x.setOpen(5, true);
        due("broken at its last coil", x.pathVoltage(1, 100), BROKEN);
        due("before the broken one", x.pathVoltage(0, 0), 6);
        due("after the broken one", x.pathVoltage(2, 0), 6);
        x.setOpen(5, false);
        due("whole again", x.pathVoltage(1, 0), -6);
        int[] wrong = {MIN, -1, 4, MAX};
        for (int brush : wrong) {
            due("of " + brush, x.pathVoltage(brush, 0), NO_ITEM);
            due("of " + brush + ", wrong turn", x.pathVoltage(brush, -1), NO_ITEM);
        }
        x.setOpen(0, true);
        int[] wrongTurns = {MIN, -1, 101, MAX};
        for (int turn : wrongTurns) {
            due("turn " + turn, x.pathVoltage(1, turn), OUT);
            due("broken, turn " + turn, x.pathVoltage(0, turn), OUT);
        }
    }

    private static void isBalanced() {
        begin("23 isBalanced");
        int[] balanced = {0, 1, 1, 0, 0};
        ArmatureWinding x = armature(4, 5, 1);
        for (int turn = 0; turn < 5; turn++) {
            due("turn " + turn, x.isBalanced(turn), balanced[turn]);
        }
        due("turn 100", x.isBalanced(100), 0);
        due("turn 97", x.isBalanced(97), 1);
        int[] wrongTurns = {MIN, -1, 101, MAX};
        for (int turn : wrongTurns) {
            due("turn " + turn, x.isBalanced(turn), OUT);
        }
        // At turn 0 the paths have 0, 2, -2 and 0: those left when two are broken.
        x.setOpen(0, true);
        due("0 broken", x.isBalanced(0), 0);
        x.setOpen(4, true);
        due("0 and 3 broken", x.isBalanced(0), 1);
        x.setOpen(0, false);
        due("3 broken, 0 differs from the others", x.isBalanced(0), 0);
        x.setOpen(0, true);
        x.setOpen(4, false);
        x.setOpen(1, true);
        due("0 and 1 broken", x.isBalanced(0), 0);
        x.setOpen(2, true);
        x.setOpen(3, true);
        due("all broken", x.isBalanced(0), 1);
        due("all broken, wrong turn", x.isBalanced(101), OUT);
        // Brushes 0 and 3 lead to their own polarity, 1 and 2 across.
        ArmatureWinding wave = armature(4, 15, 1);
        wave.setWinding(WAVE, 1, false);
        due("0, 10, -12 and 2, of which 10 and -12 count", wave.isBalanced(0), 0);
        wave.setOpen(3, true);
        due("0, -12 and 2, of which -12 counts", wave.isBalanced(0), 1);
    }

    private static void balancedTurns() {
        begin("24 balancedTurns");
        ArmatureWinding x = armature(4, 5, 1);
        due("5 slots, 4 poles", x.balancedTurns(), 2);
        x.setOpen(0, true);
        x.setOpen(1, true);
        x.setOpen(2, true);
        due("one path left", x.balancedTurns(), 5);
        due("first", new ArmatureWinding().balancedTurns(), 12);
        due("slots, not coils", armature(8, 24, 3).balancedTurns(), 24);
        due("2 slots", armature(2, 2, 1).balancedTurns(), 2);
    }

    private static void resistance() {
        begin("25 resistance");
        ArmatureWinding x = new ArmatureWinding();
        double third = 1.0 / 3;
        due("four paths of 3", x.resistance(), bits(1.0 / (0.0 + third + third + third + third)));
        x.setOpen(4, true);
        due("three paths of 3", x.resistance(), bits(1.0 / (0.0 + third + third + third)));
        x.setWinding(LAP, 2, true);
        due("no path across", x.resistance(), NONE);
        ArmatureWinding five = armature(4, 5, 1);
        due("1, 1, 1 and 2", five.resistance(), bits(1.0 / 3.5));
        five.setOpen(0, true);
        five.setOpen(1, true);
        five.setOpen(2, true);
        due("one path of 2", five.resistance(), bits(2.0));
        five.setOpen(3, true);
        due("all broken", five.resistance(), NONE);
        due("two paths of 36", armature(2, 24, 3).resistance(), bits(1.0 / (1.0 / 36 + 1.0 / 36)));
        due("eight paths of 1", armature(8, 8, 1).resistance(), bits(0.125));
        ArmatureWinding wave = armature(4, 15, 1);
        wave.setWinding(WAVE, 1, true);
        // Brush 0 leads to 1 by 6 coils, 3 to 2 by 7; 1 and 2 lead to their own polarity.
        due("6 and 7 across, 1 and 1 not", wave.resistance(), bits(1.0 / (1.0 / 6 + 1.0 / 7)));
    }

    private static long bits(double value) {
        return Double.doubleToLongBits(value);
    }

    private static void equalizerBar() {
        begin("26 equalizerBar");
        ArmatureWinding x = new ArmatureWinding();
        due("of 0", x.equalizerBar(0), 6);
        due("of 5", x.equalizerBar(5), 11);
        due("of 6, round", x.equalizerBar(6), 0);
        due("of 11, round", x.equalizerBar(11), 5);
        int[] wrong = {MIN, -1, 12, MAX};
        for (int bar : wrong) {
            due("of " + bar, x.equalizerBar(bar), NO_ITEM);
        }
        due("2 poles", armature(2, 7, 1).equalizerBar(4), 4);
        due("4 poles do not divide 10", armature(4, 5, 1).equalizerBar(0), NONE);
        due("4 poles do not divide 10, wrong bar", armature(4, 5, 1).equalizerBar(5), NO_ITEM);
        due("4 poles divide 12", armature(4, 6, 1).equalizerBar(4), 1);
        due("6 poles divide 18", armature(6, 9, 1).equalizerBar(1), 4);
        due("6 poles do not divide 20", armature(6, 10, 1).equalizerBar(1), NONE);
        due("8 poles divide 72", armature(8, 12, 3).equalizerBar(30), 3);
    }

    private static long hashOf(long... values) {
        long hash = 1789;
        for (long value : values) {
            hash = 31 * hash + value;
        }
        return hash;
    }

    private static void digest() {
        begin("27 digest");
        due("2, 2, 1", armature(2, 2, 1).digest(), hashOf(
            2, 2, 2, 0, 1, 1, 1, 0, 1,
            1, 1, 0, 0, 0, 0, 0, 0,
            1, 1,
            0, 1, 1, 2, -2, 1, 1, 0, -2, 2,
            2, bits(0.5), 0));
        due("again", armature(2, 2, 1).digest(), armature(2, 2, 1).digest());
        ArmatureWinding duplex = armature(2, 2, 1);
        duplex.setWinding(LAP, 2, false);
        due("two circuits", duplex.digest(), hashOf(
            2, 2, 2, 0, 2, 0, -2, 0, 1,
            0, 1, 0, 0, 1, 0, 1, 0,
            2, 2,
            0, 1, 0, 2, -2, 1, 1, 1, -2, 2,
            2, NONE, 0));
    }

    private static void digestOfErrorCodes() {
        begin("27 digest of error codes");
        ArmatureWinding x = smallWave();
        due("a broken path", x.digest(), hashOf(
            2, 3, 3, 1, 1, 0, 2, 5, 1,
            2, 1, 0, 0, 0, 2, 0, 1, 1, 0, 0, 0,
            1, 0,
            0, 2, 1, -2, 2, 1, 1, 0, BROKEN, BROKEN,
            3, bits(2.0), 0));
        x.setOpen(0, true);
        x.setOpen(2, true);
        due("all broken", x.digest(), hashOf(
            2, 3, 3, 1, 1, 0, 2, 5, 1,
            2, 1, 0, 1, 0, 2, 0, 1, 1, 0, 0, 1,
            1, 0,
            0, 2, 1, BROKEN, BROKEN, 1, 1, 0, BROKEN, BROKEN,
            3, NONE, 0));
        due("no equalizer", armature(4, 5, 1).digest(), hashOf(
            4, 5, 5, 0, 1, 1, 1, 0, 1,
            1, 1, 0, 0, 2, 2, 0, 0, 3, 3, 0, 0, 4, 4, 0, 0, 0, 0, 0, 0,
            1, 1,
            0, 1, 1, 0, 2, 1, 1, 2, 2, -2, 2, 1, 3, -2, 2, 3, 2, 0, 0, -2,
            2, bits(1.0 / 3.5), NONE));
    }
}
