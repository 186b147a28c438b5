/** Makes the armatures that the tests ask. */
final class Made {
    static final int LAP = 0, WAVE = 1;
    static final int OUT = -1001, NO_ITEM = -1002, NOT_POSSIBLE = -1003, NONE = -1004, BROKEN = -1005;
    static final int MIN = Integer.MIN_VALUE, MAX = Integer.MAX_VALUE;

    private Made() {
    }

    /** What is done at each armature, or at each winding. */
    interface AtArmature {
        void at(int poles, int slots, int coilsPerSlot);
    }

    interface AtWinding {
        void at(int type, int plex, boolean progressive);
    }

    static ArmatureWinding armature(int poles, int slots, int coilsPerSlot) {
        ArmatureWinding x = new ArmatureWinding();
        taken("setArmature", x.setArmature(poles, slots, coilsPerSlot));
        return x;
    }

    static ArmatureWinding smallest() {
        return armature(2, 2, 1);
    }

    static ArmatureWinding largest() {
        return armature(8, 24, 3);
    }

    static ArmatureWinding wound(ArmatureWinding x, int type, int plex, boolean progressive) {
        taken("setWinding", x.setWinding(type, plex, progressive));
        return x;
    }

    static ArmatureWinding chorded(ArmatureWinding x, int chording) {
        taken("setChording", x.setChording(chording));
        return x;
    }

    static ArmatureWinding opened(ArmatureWinding x, int... coils) {
        for (int coil : coils) {
            taken("setOpen", x.setOpen(coil, true));
        }
        return x;
    }

    static ArmatureWinding allOpened(ArmatureWinding x) {
        int coils = x.coilCount();
        for (int coil = 0; coil < coils; coil++) {
            taken("setOpen", x.setOpen(coil, true));
        }
        return x;
    }

    static void atEachArmature(AtArmature visit) {
        for (int poles = 2; poles <= 8; poles += 2) {
            for (int slots = poles; slots <= 24; slots++) {
                for (int coilsPerSlot = 1; coilsPerSlot <= 3; coilsPerSlot++) {
                    visit.at(poles, slots, coilsPerSlot);
                }
            }
        }
    }

    /** Visits the windings that an armature can have. */
    static void atEachWinding(int poles, int slots, int coilsPerSlot, AtWinding visit) {
        for (int plex = 1; plex <= 3; plex++) {
            for (int turn = 0; turn < 4; turn++) {
                int type = turn < 2 ? LAP : WAVE;
                boolean progressive = turn % 2 == 0;
                if (armature(poles, slots, coilsPerSlot).setWinding(type, plex, progressive) != NOT_POSSIBLE) {
                    visit.at(type, plex, progressive);
                }
            }
        }
    }

    static long bits(double value) {
        return Double.doubleToLongBits(value);
    }

    static String name(int poles, int slots, int coilsPerSlot) {
        return poles + " poles, " + slots + " slots, " + coilsPerSlot + " a slot: ";
    }

    private static void taken(String call, int answer) {
        if (answer < -1000) {
            throw new IllegalStateException(call + " answered " + answer);
        }
    }
}
