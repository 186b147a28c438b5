/**
 * Each sentence of the document's "What it is" and "Description" that names a boundary case: a test
 * of its own, headed by the sentence. What a refused call leaves is RefusalTest's.
 */
public final class DescriptionBoundaryTest {
    private static final int LAP = Made.LAP, WAVE = Made.WAVE;
    private static final int NO_ITEM = Made.NO_ITEM, NOT_POSSIBLE = Made.NOT_POSSIBLE;
    private static final int NONE = Made.NONE, BROKEN = Made.BROKEN;
    private static final int MOST_CALLS = 512;

    public static void main(String[] args) {
        usedForAllItsCalls();
        coilsAreNumberedFromZero();
        barsAreNumberedFromZero();
        slotsAreNumberedFromZero();
        brushesAreNumberedFromZero();
        upperSideDividesWhole();
        lowerSideGoesRound();
        slotPitchDividesWhole();
        slotPitchIsNotLessThanOne();
        coilsEndOnwardsAndRound();
        coilsEndBackwardsAndRound();
        pitchesOfAWholeRoundAndMore();
        lapPitches();
        wavePitches();
        waveOnlyIfExact();
        coilThatFollows();
        circuitsLeadBack();
        circuitsByTheirLowestCoils();
        circuitsFromTheirLowestCoil();
        brushBarsDivideWhole();
        brushPolarities();
        pathsBeginAtTheirBrush();
        pathsEndAtTheFirstBrush();
        pathsEndAtTheirOwnBrush();
        pathsGoRound();
        shortestAndLongestPaths();
        pathsBrokenByTheirCoils();
        turnedSlotsGoRound();
        polesDivideWhole();
        upperSideMinusLowerSide();
        pathVoltagesAreSums();
        brushesStay();
        Due.end();
    }

    // ---- what it is

    private static void usedForAllItsCalls() {
        Due.begin("an object is used for at most 512 calls");
        ArmatureWinding chorded = new ArmatureWinding();
        ArmatureWinding opened = new ArmatureWinding();
        ArmatureWinding laid = new ArmatureWinding();
        ArmatureWinding asked = Made.allOpened(Made.largest());
        ArmatureWinding refused = new ArmatureWinding();
        long digest = asked.digest();
        for (int call = 1; call <= MOST_CALLS; call++) {
            Due.due("setChording, call " + call, chorded.setChording(call % 6), (call - 1) % 6);
            Due.due("setOpen, call " + call, opened.setOpen(11, call % 2 == 1), 1 - call % 2);
            boolean wide = call % 2 == 0;
            Due.due("setArmature, call " + call, laid.setArmature(wide ? 8 : 2, wide ? 24 : 2, wide ? 3 : 1), wide ? 72 : 2);
            if (call < MOST_CALLS) {
                Due.due("setOpen refused, call " + call, refused.setOpen(12, true), NO_ITEM);
            }
        }
        // The object has had a setArmature, a coilCount, 72 setOpen and a digest already.
        for (int call = 76; call <= MOST_CALLS; call++) {
            Due.due("digest, call " + call, asked.digest(), digest);
        }
        Due.due("digest after 511 refused calls", refused.digest(), new ArmatureWinding().digest());
    }

    // ---- armature

    /** One of the methods that take a number of a coil, a bar, a slot or a brush. */
    private interface Asking {
        long ask(ArmatureWinding x, int number);
    }

    private static void takesFromZeroTo(String call, ArmatureWinding x, int count, Asking method) {
        Due.due(call + " of 0 is taken", method.ask(x, 0) != NO_ITEM, true);
        Due.due(call + " of the last, " + (count - 1) + ", is taken", method.ask(x, count - 1) != NO_ITEM, true);
        Due.due(call + " of -1", method.ask(x, -1), NO_ITEM);
        Due.due(call + " of the first too large, " + count, method.ask(x, count), NO_ITEM);
        Due.due(call + " of the least int", method.ask(x, Made.MIN), NO_ITEM);
        Due.due(call + " of the greatest int", method.ask(x, Made.MAX), NO_ITEM);
    }

    private static void coilsAreNumberedFromZero() {
        Due.begin("it has C = S * u coils, numbered from 0");
        Made.atEachArmature((poles, slots, perSlot) -> {
            String at = Made.name(poles, slots, perSlot);
            ArmatureWinding x = Made.armature(poles, slots, perSlot);
            int coils = slots * perSlot;
            Due.due(at + "coilCount", x.coilCount(), coils);
            takesFromZeroTo(at + "setOpen", x, coils, (w, coil) -> w.setOpen(coil, true));
            takesFromZeroTo(at + "endBar", x, coils, ArmatureWinding::endBar);
            takesFromZeroTo(at + "upperSlot", x, coils, ArmatureWinding::upperSlot);
            takesFromZeroTo(at + "lowerSlot", x, coils, ArmatureWinding::lowerSlot);
            takesFromZeroTo(at + "circuitOf", x, coils, ArmatureWinding::circuitOf);
            takesFromZeroTo(at + "coilVoltage", x, coils, (w, coil) -> w.coilVoltage(coil, 0));
        });
    }

    private static void barsAreNumberedFromZero() {
        Due.begin("a commutator with C bars, numbered from 0");
        Made.atEachArmature((poles, slots, perSlot) -> {
            String at = Made.name(poles, slots, perSlot);
            ArmatureWinding x = Made.armature(poles, slots, perSlot);
            int bars = slots * perSlot;
            takesFromZeroTo(at + "coilEndingAt", x, bars, ArmatureWinding::coilEndingAt);
            takesFromZeroTo(at + "brushOn", x, bars, ArmatureWinding::brushOn);
            takesFromZeroTo(at + "equalizerBar", x, bars, ArmatureWinding::equalizerBar);
        });
    }

    private static void slotsAreNumberedFromZero() {
        Due.begin("S slots (numbered from 0 around the armature)");
        Made.atEachArmature((poles, slots, perSlot) -> takesFromZeroTo(Made.name(poles, slots, perSlot) + "openCoilsIn",
            Made.armature(poles, slots, perSlot), slots, ArmatureWinding::openCoilsIn));
    }

    private static void brushesAreNumberedFromZero() {
        Due.begin("there are P brushes, numbered from 0");
        Made.atEachArmature((poles, slots, perSlot) -> {
            String at = Made.name(poles, slots, perSlot);
            ArmatureWinding x = Made.armature(poles, slots, perSlot);
            takesFromZeroTo(at + "brushBar", x, poles, ArmatureWinding::brushBar);
            takesFromZeroTo(at + "pathLength", x, poles, ArmatureWinding::pathLength);
            takesFromZeroTo(at + "pathEnd", x, poles, ArmatureWinding::pathEnd);
            takesFromZeroTo(at + "pathVoltage", x, poles, (w, brush) -> w.pathVoltage(brush, 0));
        });
    }

    private static void upperSideDividesWhole() {
        Due.begin("the upper side of coil i is in slot i / u (integer division)");
        Made.atEachArmature((poles, slots, perSlot) -> {
            String at = Made.name(poles, slots, perSlot);
            ArmatureWinding x = Made.armature(poles, slots, perSlot);
            int coil = 0;
            for (int slot = 0; slot < slots; slot++) {
                for (int place = 0; place < perSlot; place++) {
                    Due.due(at + coil, x.upperSlot(coil), slot);
                    coil++;
                }
            }
        });
        ArmatureWinding x = Made.largest();
        Due.due("last coil of the first slot", x.upperSlot(2), 0);
        Due.due("first coil of the second slot", x.upperSlot(3), 1);
        Due.due("last coil of the last slot but one", x.upperSlot(68), 22);
        Due.due("first coil of the last slot", x.upperSlot(69), 23);
        Due.due("last coil of the last slot", x.upperSlot(71), 23);
    }

    private static void lowerSideGoesRound() {
        Due.begin("the lower side of coil i is in slot (i / u + q) mod S");
        ArmatureWinding first = new ArmatureWinding();
        Due.due("the last that does not go round", first.lowerSlot(8), 11);
        Due.due("the first that goes round", first.lowerSlot(9), 0);
        Due.due("the last coil", first.lowerSlot(11), 2);
        Due.due("smallest, coil 0", Made.smallest().lowerSlot(0), 1);
        Due.due("smallest, coil 1", Made.smallest().lowerSlot(1), 0);
        ArmatureWinding largest = Made.largest();
        Due.due("largest, the last that does not go round", largest.lowerSlot(62), 23);
        Due.due("largest, the first that goes round", largest.lowerSlot(63), 0);
        Due.due("largest, the last coil", largest.lowerSlot(71), 2);
        ArmatureWinding longest = Made.armature(2, 24, 3);
        Due.due("longest slot pitch, the last that does not go round", longest.lowerSlot(35), 23);
        Due.due("longest slot pitch, the first that goes round", longest.lowerSlot(36), 0);
        Due.due("longest slot pitch, the last coil", longest.lowerSlot(71), 11);
        Made.chorded(longest, 5);
        Due.due("chorded, the last that does not go round", longest.lowerSlot(50), 23);
        Due.due("chorded, the first that goes round", longest.lowerSlot(51), 0);
        ArmatureWinding least = Made.chorded(Made.largest(), 5);
        Due.due("least slot pitch, the last that does not go round", least.lowerSlot(68), 23);
        Due.due("least slot pitch, the first that goes round", least.lowerSlot(69), 0);
    }

    private static void slotPitchDividesWhole() {
        Due.begin("the slot pitch is S / P (integer division)");
        Made.atEachArmature((poles, slots, perSlot) -> {
            int pitch = Made.armature(poles, slots, perSlot).slotPitch();
            String at = Made.name(poles, slots, perSlot);
            Due.due(at + "not too long: " + pitch, pitch * poles <= slots, true);
            Due.due(at + "not too short: " + pitch, (pitch + 1) * poles > slots, true);
        });
        int[][] pitches = {
            // poles, slots, slot pitch
            {2, 2, 1}, {2, 3, 1}, {2, 4, 2}, {2, 23, 11}, {2, 24, 12}, {4, 7, 1}, {4, 8, 2}, {4, 23, 5}, {4, 24, 6},
            {6, 11, 1}, {6, 12, 2}, {6, 23, 3}, {6, 24, 4}, {8, 8, 1}, {8, 15, 1}, {8, 16, 2}, {8, 23, 2}, {8, 24, 3},
        };
        for (int[] p : pitches) {
            Due.due(Made.name(p[0], p[1], 1), Made.armature(p[0], p[1], 1).slotPitch(), p[2]);
        }
    }

    private static void slotPitchIsNotLessThanOne() {
        Due.begin("minus the chording, but not less than 1");
        int[][] pitches = {
            // poles, slots, and the slot pitch with chording 0 to 5
            {2, 2, 1, 1, 1, 1, 1, 1}, {2, 4, 2, 1, 1, 1, 1, 1}, {4, 12, 3, 2, 1, 1, 1, 1}, {4, 16, 4, 3, 2, 1, 1, 1},
            {4, 20, 5, 4, 3, 2, 1, 1}, {4, 24, 6, 5, 4, 3, 2, 1}, {2, 14, 7, 6, 5, 4, 3, 2}, {2, 24, 12, 11, 10, 9, 8, 7},
            {8, 8, 1, 1, 1, 1, 1, 1}, {8, 24, 3, 2, 1, 1, 1, 1},
        };
        for (int[] p : pitches) {
            ArmatureWinding x = Made.armature(p[0], p[1], 3);
            for (int chording = 0; chording <= 5; chording++) {
                Made.chorded(x, chording);
                String at = Made.name(p[0], p[1], 3) + "chorded by " + chording;
                Due.due(at, x.slotPitch(), p[2 + chording]);
                Due.due(at + ", lower slot of coil 0", x.lowerSlot(0), p[2 + chording]);
            }
            Due.due("the chording itself is not cut short", x.setChording(1), 5);
            Due.due("with the chording taken back to 1", x.slotPitch(), p[3]);
        }
    }

    // ---- winding

    private static void coilsEndOnwardsAndRound() {
        Due.begin("coil i begins at bar i and ends at bar (i + y) mod C");
        for (int plex = 1; plex <= 3; plex++) {
            endsPastTheLastBar("first", new ArmatureWinding(), 12, plex);
            endsPastTheLastBar("largest", Made.largest(), 72, plex);
        }
        ArmatureWinding wave = Made.wound(Made.armature(4, 15, 1), WAVE, 1, true);
        Due.due("wave of pitch 8, the last that does not go round", wave.endBar(6), 14);
        Due.due("wave of pitch 8, the first that goes round", wave.endBar(7), 0);
        Due.due("wave of pitch 8, the last coil", wave.endBar(14), 7);
        Due.due("wave of pitch 8, the coil at bar 7", wave.coilEndingAt(7), 14);
        Due.due("wave of pitch 8, the coil at bar 8", wave.coilEndingAt(8), 0);
        Made.atEachArmature((poles, slots, perSlot) -> Made.atEachWinding(poles, slots, perSlot,
            (type, plex, progressive) -> endsOneAfterTheOther(poles, slots, perSlot, type, plex, progressive)));
    }

    private static void endsPastTheLastBar(String at, ArmatureWinding x, int coils, int plex) {
        Made.wound(x, LAP, plex, true);
        String call = at + ", plex " + plex;
        Due.due(call + ", the last that does not go round", x.endBar(coils - 1 - plex), coils - 1);
        Due.due(call + ", the first that goes round", x.endBar(coils - plex), 0);
        Due.due(call + ", the last coil", x.endBar(coils - 1), plex - 1);
        Due.due(call + ", the coil at bar 0", x.coilEndingAt(0), coils - plex);
        Due.due(call + ", the coil at the last bar", x.coilEndingAt(coils - 1), coils - 1 - plex);
    }

    /** The ends go round the commutator once, bar by bar, from wherever coil 0 ends. */
    private static void endsOneAfterTheOther(int poles, int slots, int perSlot, int type, int plex, boolean progressive) {
        ArmatureWinding x = Made.wound(Made.armature(poles, slots, perSlot), type, plex, progressive);
        String at = Made.name(poles, slots, perSlot) + type + " " + plex + " " + progressive + " ";
        int coils = slots * perSlot;
        int bar = x.endBar(0);
        Due.due(at + "bar of coil 0 is there: " + bar, bar >= 0 && bar < coils, true);
        for (int coil = 0; coil < coils; coil++) {
            Due.due(at + coil, x.endBar(coil), bar);
            Due.due(at + "coil at " + bar, x.coilEndingAt(bar), coil);
            bar = bar == coils - 1 ? 0 : bar + 1;
        }
    }

    private static void coilsEndBackwardsAndRound() {
        Due.begin("the mod of a negative number is taken so that the result is from 0 to C - 1");
        for (int plex = 1; plex <= 3; plex++) {
            endsBeforeTheFirstBar("first", new ArmatureWinding(), 12, plex);
            endsBeforeTheFirstBar("largest", Made.largest(), 72, plex);
        }
        Due.due("smallest, back by 1, coil 0", Made.wound(Made.smallest(), LAP, 1, false).endBar(0), 1);
        Due.due("smallest, back by 2, coil 0", Made.wound(Made.smallest(), LAP, 2, false).endBar(0), 0);
        Due.due("smallest, back by 3, coil 0", Made.wound(Made.smallest(), LAP, 3, false).endBar(0), 1);
        ArmatureWinding wave = Made.wound(Made.smallest(), WAVE, 3, false);
        Due.due("smallest, wave of pitch -1, coil 0", wave.endBar(0), 1);
        Due.due("smallest, wave of pitch -1, coil 1", wave.endBar(1), 0);
        ArmatureWinding onward = Made.wound(Made.smallest(), WAVE, 3, true);
        Due.due("smallest, wave of pitch 5, the coil at bar 0", onward.coilEndingAt(0), 1);
        Due.due("smallest, wave of pitch 5, the coil at bar 1", onward.coilEndingAt(1), 0);
    }

    private static void endsBeforeTheFirstBar(String at, ArmatureWinding x, int coils, int plex) {
        Made.wound(x, LAP, plex, false);
        String call = at + ", plex " + plex;
        Due.due(call + ", the first that does not go round", x.endBar(plex), 0);
        Due.due(call + ", the last that goes round", x.endBar(plex - 1), coils - 1);
        Due.due(call + ", coil 0", x.endBar(0), coils - plex);
        Due.due(call + ", the last coil", x.endBar(coils - 1), coils - 1 - plex);
        Due.due(call + ", the coil at bar 0", x.coilEndingAt(0), plex);
        Due.due(call + ", the coil at the last bar", x.coilEndingAt(coils - 1), plex - 1);
    }

    private static void pitchesOfAWholeRoundAndMore() {
        Due.begin("coil i ends at bar (i + y) mod C, y not between 0 and C");
        int[][] ends = {
            // slots of 2 poles, type, plex, progressive, pitch, and the bar where coil 0, 1 .. ends
            {2, LAP, 2, 1, 2, 0, 1}, {2, LAP, 2, 0, -2, 0, 1}, {2, LAP, 3, 1, 3, 1, 0}, {2, LAP, 3, 0, -3, 1, 0},
            {2, WAVE, 1, 1, 3, 1, 0}, {2, WAVE, 2, 1, 4, 0, 1}, {2, WAVE, 3, 1, 5, 1, 0},
            {2, WAVE, 1, 0, 1, 1, 0}, {2, WAVE, 2, 0, 0, 0, 1}, {2, WAVE, 3, 0, -1, 1, 0},
            {3, LAP, 3, 1, 3, 0, 1, 2}, {3, LAP, 3, 0, -3, 0, 1, 2},
            {3, WAVE, 1, 1, 4, 1, 2, 0}, {3, WAVE, 2, 1, 5, 2, 0, 1}, {3, WAVE, 3, 1, 6, 0, 1, 2},
            {3, WAVE, 1, 0, 2, 2, 0, 1}, {3, WAVE, 2, 0, 1, 1, 2, 0}, {3, WAVE, 3, 0, 0, 0, 1, 2},
        };
        for (int[] e : ends) {
            ArmatureWinding x = Made.armature(2, e[0], 1);
            String at = e[0] + " slots, type " + e[1] + ", plex " + e[2] + ", " + e[3];
            Due.due(at, x.setWinding(e[1], e[2], e[3] == 1), e[4]);
            for (int coil = 0; coil < e[0]; coil++) {
                Due.due(at + ", coil " + coil, x.endBar(coil), e[5 + coil]);
                Due.due(at + ", the coil at its bar", x.coilEndingAt(e[5 + coil]), coil);
            }
        }
    }

    private static void lapPitches() {
        Due.begin("for a lap winding y is m if it is progressive and -m if it is retrogressive");
        Made.atEachArmature((poles, slots, perSlot) -> {
            ArmatureWinding x = Made.armature(poles, slots, perSlot);
            for (int plex = 1; plex <= 3; plex++) {
                Due.due(Made.name(poles, slots, perSlot) + plex, x.setWinding(LAP, plex, true), plex);
                Due.due(Made.name(poles, slots, perSlot) + -plex, x.setWinding(LAP, plex, false), -plex);
            }
        });
    }

    private static void wavePitches() {
        Due.begin("t is C + m if progressive and C - m if retrogressive; y is t / (P / 2)");
        int[][] pitches = {
            // poles, slots, coils per slot, plex, progressive, pitch
            {2, 2, 1, 1, 1, 3}, {2, 2, 1, 2, 1, 4}, {2, 2, 1, 3, 1, 5}, {2, 2, 1, 1, 0, 1}, {2, 2, 1, 2, 0, 0},
            {2, 2, 1, 3, 0, -1}, {2, 24, 3, 3, 1, 75}, {2, 24, 3, 3, 0, 69}, {2, 24, 3, 1, 0, 71},
            {4, 4, 1, 2, 1, 3}, {4, 4, 1, 2, 0, 1}, {4, 5, 1, 3, 1, 4}, {4, 5, 1, 3, 0, 1}, {4, 24, 3, 2, 1, 37},
            {4, 24, 3, 2, 0, 35}, {6, 6, 1, 3, 1, 3}, {6, 6, 1, 3, 0, 1}, {6, 24, 3, 3, 1, 25}, {6, 24, 3, 3, 0, 23},
            {6, 7, 1, 2, 1, 3}, {6, 7, 1, 1, 0, 2}, {8, 9, 1, 3, 1, 3}, {8, 9, 1, 1, 0, 2}, {8, 23, 3, 3, 1, 18},
            {8, 23, 3, 1, 0, 17},
        };
        for (int[] p : pitches) {
            Due.due(Made.name(p[0], p[1], p[2]) + "plex " + p[3] + ", " + p[4],
                Made.armature(p[0], p[1], p[2]).setWinding(WAVE, p[3], p[4] == 1), p[5]);
        }
    }

    private static void waveOnlyIfExact() {
        Due.begin("the winding is possible only if this division is exact");
        int[][] refused = {
            // poles, slots, plex, progressive: the division leaves 1, 2 .. P / 2 - 1
            {4, 4, 1, 1}, {4, 4, 1, 0}, {4, 4, 3, 1}, {4, 4, 3, 0}, {4, 5, 2, 1}, {4, 5, 2, 0},
            {6, 6, 1, 1}, {6, 6, 2, 1}, {6, 6, 1, 0}, {6, 6, 2, 0}, {6, 7, 1, 1}, {6, 7, 3, 0},
            {8, 8, 1, 1}, {8, 8, 2, 1}, {8, 8, 3, 1}, {8, 8, 1, 0}, {8, 8, 2, 0}, {8, 8, 3, 0},
            {8, 24, 1, 1}, {8, 24, 2, 1}, {8, 24, 3, 1}, {8, 24, 1, 0}, {8, 24, 2, 0}, {8, 24, 3, 0},
        };
        for (int[] r : refused) {
            Due.due(Made.name(r[0], r[1], 1) + "plex " + r[2] + ", " + r[3],
                Made.armature(r[0], r[1], 1).setWinding(WAVE, r[2], r[3] == 1), NOT_POSSIBLE);
        }
        Made.atEachArmature((poles, slots, perSlot) -> {
            for (int plex = 1; plex <= 3; plex++) {
                exactOrRefused(poles, slots, perSlot, plex, true, slots * perSlot + plex);
                exactOrRefused(poles, slots, perSlot, plex, false, slots * perSlot - plex);
            }
        });
    }

    private static void exactOrRefused(int poles, int slots, int perSlot, int plex, boolean progressive, int t) {
        int want = NOT_POSSIBLE;
        for (int pitch = -1; pitch <= 75; pitch++) {
            if (pitch * (poles / 2) == t) {
                want = pitch;
            }
        }
        Due.due(Made.name(poles, slots, perSlot) + "plex " + plex + ", " + progressive,
            Made.armature(poles, slots, perSlot).setWinding(WAVE, plex, progressive), want);
    }

    // ---- circuits

    private static void coilThatFollows() {
        Due.begin("the coil that follows coil i is the coil that begins at the bar at which coil i ends");
        Made.atEachArmature((poles, slots, perSlot) -> Made.atEachWinding(poles, slots, perSlot, (type, plex, progressive) -> {
            ArmatureWinding x = Made.wound(Made.armature(poles, slots, perSlot), type, plex, progressive);
            String at = Made.name(poles, slots, perSlot) + type + " " + plex + " " + progressive + " ";
            int coil = x.coilAt(0, 0);
            for (int place = 1; x.coilAt(0, place) != NONE && place <= 72; place++) {
                Due.due(at + "place " + place, x.coilAt(0, place), x.endBar(coil));
                coil = x.coilAt(0, place);
            }
            Due.due(at + "the last coil leads back", x.endBar(coil), 0);
        }));
    }

    private static void circuitsAre(String at, ArmatureWinding x, int[][] circuits) {
        Due.due(at + ", circuitCount", x.circuitCount(), circuits.length);
        Due.due(at + ", no circuit " + circuits.length, x.coilAt(circuits.length, 0), NO_ITEM);
        for (int circuit = 0; circuit < circuits.length; circuit++) {
            int length = circuits[circuit].length;
            for (int place = 0; place < length; place++) {
                int coil = circuits[circuit][place];
                Due.due(at + ", coilAt " + circuit + ", " + place, x.coilAt(circuit, place), coil);
                Due.due(at + ", circuitOf " + coil, x.circuitOf(coil), circuit);
            }
            Due.due(at + ", coilAt " + circuit + ", " + length, x.coilAt(circuit, length), NONE);
        }
    }

    private static void circuitsLeadBack() {
        Due.begin("following the coils from any coil leads back to that coil");
        circuitsAre("pitch 0, 2 coils", Made.wound(Made.smallest(), WAVE, 2, false), new int[][] {{0}, {1}});
        circuitsAre("pitch 0, 3 coils", Made.wound(Made.armature(2, 3, 1), WAVE, 3, false), new int[][] {{0}, {1}, {2}});
        circuitsAre("pitch C", Made.wound(Made.armature(2, 3, 1), LAP, 3, true), new int[][] {{0}, {1}, {2}});
        circuitsAre("pitch -C", Made.wound(Made.armature(2, 3, 1), LAP, 3, false), new int[][] {{0}, {1}, {2}});
        circuitsAre("pitch 2 C", Made.wound(Made.armature(2, 3, 1), WAVE, 3, true), new int[][] {{0}, {1}, {2}});
        circuitsAre("pitch C + 1", Made.wound(Made.smallest(), LAP, 3, true), new int[][] {{0, 1}});
        circuitsAre("pitch -C - 1", Made.wound(Made.smallest(), LAP, 3, false), new int[][] {{0, 1}});
        circuitsAre("twice round", Made.wound(Made.armature(2, 7, 1), LAP, 2, true), new int[][] {{0, 2, 4, 6, 1, 3, 5}});
        circuitsAre("twice round back", Made.wound(Made.armature(2, 7, 1), LAP, 2, false),
            new int[][] {{0, 5, 3, 1, 6, 4, 2}});
        ArmatureWinding longest = Made.largest();
        Due.due("72 coils in one circuit, its last", longest.coilAt(0, 71), 71);
        Due.due("72 coils in one circuit, after its last", longest.coilAt(0, 72), NONE);
    }

    private static void circuitsByTheirLowestCoils() {
        Due.begin("circuits are numbered from 0 by their lowest coils, in ascending order");
        circuitsAre("duplex back", Made.wound(new ArmatureWinding(), LAP, 2, false),
            new int[][] {{0, 10, 8, 6, 4, 2}, {1, 11, 9, 7, 5, 3}});
        circuitsAre("triplex on", Made.wound(Made.armature(2, 3, 2), LAP, 3, true), new int[][] {{0, 3}, {1, 4}, {2, 5}});
        circuitsAre("triplex wave of pitch 6", Made.wound(Made.armature(4, 15, 1), WAVE, 3, false),
            new int[][] {{0, 6, 12, 3, 9}, {1, 7, 13, 4, 10}, {2, 8, 14, 5, 11}});
        ArmatureWinding x = Made.wound(Made.largest(), LAP, 3, false);
        for (int circuit = 0; circuit < 3; circuit++) {
            Due.due("72 coils, first of circuit " + circuit, x.coilAt(circuit, 0), circuit);
            Due.due("72 coils, circuit of coil " + (69 + circuit), x.circuitOf(69 + circuit), circuit);
        }
        Due.due("72 coils, no circuit 3", x.coilAt(3, 0), NO_ITEM);
    }

    private static void circuitsFromTheirLowestCoil() {
        Due.begin("the coils of a circuit are ordered from its lowest coil on");
        circuitsAre("triplex back", Made.wound(new ArmatureWinding(), LAP, 3, false),
            new int[][] {{0, 9, 6, 3}, {1, 10, 7, 4}, {2, 11, 8, 5}});
        circuitsAre("wave of pitch 7", Made.wound(Made.armature(4, 15, 1), WAVE, 1, false),
            new int[][] {{0, 7, 14, 6, 13, 5, 12, 4, 11, 3, 10, 2, 9, 1, 8}});
        Made.atEachArmature((poles, slots, perSlot) -> Made.atEachWinding(poles, slots, perSlot, (type, plex, progressive) -> {
            ArmatureWinding x = Made.wound(Made.armature(poles, slots, perSlot), type, plex, progressive);
            String at = Made.name(poles, slots, perSlot) + type + " " + plex + " " + progressive + ", circuit ";
            for (int circuit = 0; circuit < x.circuitCount(); circuit++) {
                int first = x.coilAt(circuit, 0);
                for (int place = 1; x.coilAt(circuit, place) != NONE && place <= 72; place++) {
                    Due.due(at + circuit + ", place " + place, x.coilAt(circuit, place) > first, true);
                }
            }
        }));
    }

    // ---- brushes and paths

    private static void brushBarsDivideWhole() {
        Due.begin("brush k stands on bar k * C / P (integer division)");
        int[][] bars = {
            // poles, slots, coils per slot, and the bars
            {2, 2, 1, 0, 1}, {2, 3, 1, 0, 1}, {2, 23, 3, 0, 34}, {2, 24, 3, 0, 36}, {4, 4, 1, 0, 1, 2, 3}, {4, 5, 1, 0, 1, 2, 3},
            {4, 7, 1, 0, 1, 3, 5}, {4, 23, 3, 0, 17, 34, 51}, {6, 6, 1, 0, 1, 2, 3, 4, 5}, {6, 11, 1, 0, 1, 3, 5, 7, 9},
            {6, 8, 2, 0, 2, 5, 8, 10, 13}, {8, 8, 1, 0, 1, 2, 3, 4, 5, 6, 7}, {8, 9, 1, 0, 1, 2, 3, 4, 5, 6, 7},
            {8, 23, 1, 0, 2, 5, 8, 11, 14, 17, 20}, {8, 24, 3, 0, 9, 18, 27, 36, 45, 54, 63},
        };
        for (int[] b : bars) {
            ArmatureWinding x = Made.armature(b[0], b[1], b[2]);
            for (int brush = 0; brush < b[0]; brush++) {
                Due.due(Made.name(b[0], b[1], b[2]) + brush, x.brushBar(brush), b[3 + brush]);
                Due.due(Made.name(b[0], b[1], b[2]) + "on " + b[3 + brush], x.brushOn(b[3 + brush]), brush);
            }
        }
    }

    private static void brushPolarities() {
        Due.begin("brushes with even numbers are positive, brushes with odd numbers are negative");
        // Bars 0, 3, 7 and 11. Brush 0 leads to 1 by 6 coils and 3 to 2 by 7; 1 to 3 and 2 to 0 by one.
        ArmatureWinding x = Made.wound(Made.armature(4, 15, 1), WAVE, 1, true);
        Due.due("0 to 1 and 3 to 2 count", x.resistance(), Made.bits(1.0 / (0.0 + 1.0 / 6 + 1.0 / 7)));
        Made.opened(x, 0);
        Due.due("3 to 2 counts", x.resistance(), Made.bits(1.0 / (0.0 + 1.0 / 7)));
        Made.opened(x, 11);
        Due.due("1 to 3 and 2 to 0 do not count", x.resistance(), NONE);
        Due.due("they are whole", x.pathVoltage(1, 0) != BROKEN && x.pathVoltage(2, 0) != BROKEN, true);
    }

    private static void pathsAre(String at, ArmatureWinding x, int[] lengths, int[] ends) {
        for (int brush = 0; brush < lengths.length; brush++) {
            Due.due(at + ", pathLength " + brush, x.pathLength(brush), lengths[brush]);
            Due.due(at + ", pathEnd " + brush, x.pathEnd(brush), ends[brush]);
        }
    }

    private static void pathsBeginAtTheirBrush() {
        Due.begin("the path of brush k begins with the coil that begins at the bar of brush k");
        // Bars 0, 3, 6 and 9: only the coil at the brush's own bar changes its path.
        for (int brush = 0; brush < 4; brush++) {
            ArmatureWinding x = Made.opened(new ArmatureWinding(), 3 * brush);
            for (int other = 0; other < 4; other++) {
                Due.due("coil " + 3 * brush + " breaks " + other, x.pathVoltage(other, 0) == BROKEN, other == brush);
            }
        }
    }

    private static void pathsEndAtTheFirstBrush() {
        Due.begin("and follows the coils until it reaches a bar on which a brush stands");
        pathsAre("first", new ArmatureWinding(), new int[] {3, 3, 3, 3}, new int[] {1, 2, 3, 0});
        pathsAre("over brushes", Made.wound(Made.armature(4, 5, 1), LAP, 2, true), new int[] {1, 1, 2, 1}, new int[] {2, 3, 1, 0});
        pathsAre("past brushes", Made.wound(Made.armature(4, 7, 1), LAP, 3, true), new int[] {1, 2, 3, 1}, new int[] {2, 0, 3, 1});
        pathsAre("a wave", Made.wound(Made.armature(4, 15, 1), WAVE, 1, true), new int[] {6, 1, 1, 7}, new int[] {1, 3, 0, 2});
    }

    private static void pathsEndAtTheirOwnBrush() {
        Due.begin("(also brush k itself)");
        pathsAre("duplex of 6", Made.wound(Made.armature(2, 6, 1), LAP, 2, true), new int[] {3, 3}, new int[] {0, 1});
        pathsAre("pitch 0", Made.wound(Made.smallest(), WAVE, 2, false), new int[] {1, 1}, new int[] {0, 1});
        pathsAre("pitch C", Made.wound(Made.smallest(), LAP, 2, true), new int[] {1, 1}, new int[] {0, 1});
        // Bars 0, 3, 7 and 11: 0 and 3 are on one circuit of five coils, 7 and 11 alone on theirs.
        pathsAre("two of four", Made.wound(Made.armature(4, 5, 3), LAP, 3, true), new int[] {1, 4, 5, 5}, new int[] {1, 0, 2, 3});
        pathsAre("two of four, back", Made.wound(Made.armature(4, 5, 3), LAP, 3, false),
            new int[] {4, 1, 5, 5}, new int[] {1, 0, 2, 3});
    }

    private static void pathsGoRound() {
        Due.begin("the path follows the coils past bar C - 1 and past bar 0");
        pathsAre("on", Made.armature(6, 12, 1), new int[] {2, 2, 2, 2, 2, 2}, new int[] {1, 2, 3, 4, 5, 0});
        pathsAre("back", Made.wound(Made.armature(6, 12, 1), LAP, 1, false),
            new int[] {2, 2, 2, 2, 2, 2}, new int[] {5, 0, 1, 2, 3, 4});
        ArmatureWinding onward = Made.opened(Made.armature(6, 12, 1), 11);
        Due.due("on, the last coil breaks brush 5", onward.pathVoltage(5, 0), BROKEN);
        ArmatureWinding back = Made.opened(Made.wound(Made.armature(6, 12, 1), LAP, 1, false), 11);
        Due.due("back, the last coil breaks brush 0", back.pathVoltage(0, 0), BROKEN);
        Due.due("back, the last coil does not break brush 5", back.pathVoltage(5, 0) != BROKEN, true);
    }

    private static void shortestAndLongestPaths() {
        Due.begin("the shortest and the longest path");
        pathsAre("smallest", Made.smallest(), new int[] {1, 1}, new int[] {1, 0});
        pathsAre("a brush on each bar", Made.armature(8, 8, 1),
            new int[] {1, 1, 1, 1, 1, 1, 1, 1}, new int[] {1, 2, 3, 4, 5, 6, 7, 0});
        pathsAre("72 coils halved", Made.armature(2, 24, 3), new int[] {36, 36}, new int[] {1, 0});
        // Bars 0 and 34 of 69: the other way to bar 0 goes round twice.
        pathsAre("longest", Made.wound(Made.armature(2, 23, 3), LAP, 2, true), new int[] {17, 52}, new int[] {1, 0});
        pathsAre("longest, back", Made.wound(Made.armature(2, 23, 3), LAP, 2, false), new int[] {52, 17}, new int[] {1, 0});
    }

    private static void pathsBrokenByTheirCoils() {
        Due.begin("the path is broken if one of its coils is open");
        for (int coil = 0; coil < 12; coil++) {
            ArmatureWinding x = Made.opened(new ArmatureWinding(), coil);
            for (int brush = 0; brush < 4; brush++) {
                boolean holds = coil >= 3 * brush && coil <= 3 * brush + 2;
                Due.due("coil " + coil + " breaks " + brush, x.pathVoltage(brush, 0) == BROKEN, holds);
            }
            x.setOpen(coil, false);
            for (int brush = 0; brush < 4; brush++) {
                Due.due("coil " + coil + " closed, " + brush, x.pathVoltage(brush, 0), brush % 2 == 0 ? 6 : -6);
            }
        }
        for (int coil = 0; coil < 6; coil++) {
            ArmatureWinding alone = Made.opened(Made.wound(Made.armature(2, 6, 1), LAP, 2, true), coil);
            Due.due("coil " + coil + " breaks 0 to 0", alone.pathVoltage(0, 0) == BROKEN, coil % 2 == 0);
            Due.due("coil " + coil + " breaks 1 to 1", alone.pathVoltage(1, 0) == BROKEN, coil % 2 == 1);
        }
        ArmatureWinding all = Made.allOpened(Made.largest());
        for (int brush = 0; brush < 8; brush++) {
            Due.due("all open, largest, " + brush, all.pathVoltage(brush, 100), BROKEN);
        }
        ArmatureWinding both = Made.allOpened(Made.smallest());
        Due.due("all open, smallest, 0", both.pathVoltage(0, 0), BROKEN);
        Due.due("all open, smallest, 1", both.pathVoltage(1, 0), BROKEN);
    }

    // ---- voltage

    private static void turnedSlotsGoRound() {
        Due.begin("slot s is then under pole number (((s + r) mod S) * P) / S");
        ArmatureWinding first = new ArmatureWinding();
        // Three slots a pole; coil 0 has its sides in slots 0 and 3, coil 11 in 11 and 2.
        int[][] voltages = {
            // turn, coil 0, coil 11
            {0, 2, -2}, {1, 2, 2}, {2, 2, 2}, {3, -2, 2}, {8, 2, 2}, {9, -2, 2}, {10, -2, -2}, {11, -2, -2},
            {12, 2, -2}, {13, 2, 2}, {23, -2, -2}, {24, 2, -2}, {95, -2, -2}, {96, 2, -2}, {99, -2, 2}, {100, -2, -2},
        };
        for (int[] v : voltages) {
            Due.due("coil 0, turn " + v[0], first.coilVoltage(0, v[0]), v[1]);
            Due.due("coil 11, turn " + v[0], first.coilVoltage(11, v[0]), v[2]);
        }
        for (int turn = 0; turn <= 100; turn++) {
            int want = turn % 2 == 0 ? 2 : -2;
            Due.due("smallest, coil 0, turn " + turn, Made.smallest().coilVoltage(0, turn), want);
            Due.due("smallest, coil 1, turn " + turn, Made.smallest().coilVoltage(1, turn), -want);
        }
        ArmatureWinding largest = Made.largest();
        Due.due("largest, last coil, turn 0", largest.coilVoltage(71, 0), -2);
        Due.due("largest, last coil, turn 1", largest.coilVoltage(71, 1), 2);
        Due.due("largest, last coil, turn 97", largest.coilVoltage(71, 97), 2);
        Due.due("largest, last coil, turn 99", largest.coilVoltage(71, 99), 2);
        Due.due("largest, last coil, turn 100", largest.coilVoltage(71, 100), -2);
    }

    private static void polesDivideWhole() {
        Due.begin("slot s is under pole number (s * P) / S (integer division)");
        int[][] voltages = {
            // poles, slots, and the voltages of the coils at turn 0, slot pitch 1
            {4, 5, 0, 2, -2, 2, -2}, {4, 7, 0, 2, 0, -2, 0, 2, -2}, {6, 7, 0, 2, -2, 2, -2, 2, -2},
            {6, 11, 0, 2, 0, -2, 0, 2, 0, -2, 0, 2, -2}, {8, 9, 0, 2, -2, 2, -2, 2, -2, 2, -2},
            {8, 8, 2, -2, 2, -2, 2, -2, 2, -2}, {2, 3, 0, 2, -2},
        };
        for (int[] v : voltages) {
            ArmatureWinding x = Made.armature(v[0], v[1], 1);
            for (int coil = 0; coil < v[1]; coil++) {
                Due.due(Made.name(v[0], v[1], 1) + coil, x.coilVoltage(coil, 0), v[2 + coil]);
            }
        }
    }

    private static void upperSideMinusLowerSide() {
        Due.begin("the voltage of a coil is the voltage of its upper side minus the voltage of its lower side");
        ArmatureWinding x = new ArmatureWinding();
        Due.due("upper +, lower -", x.coilVoltage(0, 0), 2);
        Due.due("upper -, lower +", x.coilVoltage(3, 0), -2);
        Made.chorded(x, 2);
        Due.due("both +", x.coilVoltage(0, 0), 0);
        Due.due("both -", x.coilVoltage(3, 0), 0);
        Due.due("chorded, upper + and lower -", x.coilVoltage(2, 0), 2);
        Due.due("chorded, upper - and lower +", x.coilVoltage(11, 0), -2);
        ArmatureWinding wide = Made.armature(4, 12, 3);
        Due.due("last of three with upper +", wide.coilVoltage(8, 0), 2);
        Due.due("first of three with upper -", wide.coilVoltage(9, 0), -2);
    }

    private static void pathVoltagesAreSums() {
        Due.begin("the voltage of a path is the sum of the voltages of its coils");
        ArmatureWinding longest = Made.wound(Made.armature(2, 24, 3), LAP, 1, true);
        for (int turn = 0; turn <= 24; turn++) {
            int step = turn <= 12 ? 6 - turn : turn - 18;
            Due.due("72 coils, brush 0, turn " + turn, longest.pathVoltage(0, turn), 12 * step);
            Due.due("72 coils, brush 1, turn " + turn, longest.pathVoltage(1, turn), -12 * step);
        }
        Due.due("smallest, brush 0", Made.smallest().pathVoltage(0, 0), 2);
        Due.due("smallest, brush 1", Made.smallest().pathVoltage(1, 0), -2);
        // Slots + + - + -: brushes 0, 1 and 2 lead by one coil, brush 3 by two.
        int[][] five = {{0, 2, -2, 0}, {2, -2, 2, -2}, {-2, 2, -2, 2}, {2, -2, 0, 0}, {-2, 0, 2, 0}};
        ArmatureWinding x = Made.armature(4, 5, 1);
        for (int turn = 0; turn < 5; turn++) {
            for (int brush = 0; brush < 4; brush++) {
                Due.due("five, " + brush + ", turn " + turn, x.pathVoltage(brush, turn), five[turn][brush]);
            }
        }
    }

    private static void brushesStay() {
        Due.begin("the brushes stay where they are on the commutator");
        ArmatureWinding x = new ArmatureWinding();
        int[] turned = {6, 2, -2, -6, -2, 2};
        for (int turn = 0; turn <= 100; turn++) {
            for (int brush = 0; brush < 4; brush++) {
                int want = brush % 2 == 0 ? turned[turn % 6] : -turned[turn % 6];
                Due.due(brush + " at turn " + turn, x.pathVoltage(brush, turn), want);
            }
        }
        for (int brush = 0; brush < 4; brush++) {
            Due.due("bar of " + brush + " after the turns", x.brushBar(brush), 3 * brush);
            Due.due("brush on the bar after the turns", x.brushOn(3 * brush), brush);
        }
    }
}
