/**
 * Compares every answer with a second program, written straight from the document's description:
 * all armatures, all windings, several chordings and sets of open coils.
 */
public final class ReferenceTest {
    private static final int[] TURNS = {Made.MIN, -1, 0, 1, 2, 7, 23, 24, 57, 100, 101, Made.MAX};

    /** What an object is brought to before it is asked. */
    private record Setting(int poles, int slots, int perSlot, int type, int plex, boolean progressive, int chording, boolean[] open) {
        Compared make() {
            Compared x = new Compared("reference");
            x.ask("setArmature", poles, slots, perSlot);
            x.ask("setWinding", type, plex, progressive ? 1 : 0);
            x.ask("setChording", chording);
            for (int coil = 0; coil < open.length; coil++) {
                if (open[coil]) {
                    x.ask("setOpen", coil, 1);
                }
            }
            return x;
        }
    }

    /** An object in its setting, made anew when its 512 calls are used up. */
    private static final class Subject {
        private final Setting setting;
        private Compared made;

        Subject(Setting setting) {
            this.setting = setting;
            made = setting.make();
        }

        void ask(String call, int... arguments) {
            if (made.calls() == Compared.MOST_CALLS) {
                made = setting.make();
            }
            made.ask(call, arguments);
        }

        Model model() {
            return made.model();
        }
    }

    public static void main(String[] args) {
        Made.atEachArmature(ReferenceTest::allWindings);
        Due.end();
    }

    private static void allWindings(int poles, int slots, int perSlot) {
        for (int kind = 0; kind < 12; kind++) {
            int type = kind % 2;
            int plex = kind / 2 % 3 + 1;
            boolean progressive = kind < 6;
            Compared x = new Compared("windings");
            x.ask("setArmature", poles, slots, perSlot);
            if (x.ask("setWinding", type, plex, progressive ? 1 : 0) != Made.NOT_POSSIBLE) {
                for (int pattern = 0; pattern < 4; pattern++) {
                    int chording = (kind + pattern + slots) % 6;
                    boolean[] open = openCoils(slots * perSlot, pattern, kind);
                    askAll(new Subject(new Setting(poles, slots, perSlot, type, plex, progressive, chording, open)));
                }
            }
        }
    }

    /** No coil, one coil, about one in six, all coils. */
    private static boolean[] openCoils(int coils, int pattern, int kind) {
        boolean[] open = new boolean[coils];
        int step = pattern == 1 ? 71 : pattern == 2 ? 6 : 1;
        for (int coil = kind % Math.min(step, coils); coil < coils && pattern != 0; coil += step) {
            open[coil] = true;
        }
        return open;
    }

    private static void askAll(Subject x) {
        x.ask("coilCount");
        x.ask("slotPitch");
        x.ask("digest");
        for (int number = -1; number <= x.model().coils(); number++) {
            askCoilAndBar(x, number);
        }
        for (int slot = -1; slot <= x.model().slots(); slot++) {
            x.ask("openCoilsIn", slot);
        }
        askCircuits(x);
        for (int brush = -1; brush <= x.model().poles(); brush++) {
            askBrush(x, brush);
        }
        for (int turn : TURNS) {
            x.ask("isBalanced", turn);
        }
        x.ask("balancedTurns");
        x.ask("resistance");
        // Once more, after all the other calls.
        x.ask("digest");
    }

    private static void askCoilAndBar(Subject x, int number) {
        x.ask("endBar", number);
        x.ask("coilEndingAt", number);
        x.ask("upperSlot", number);
        x.ask("lowerSlot", number);
        x.ask("circuitOf", number);
        x.ask("brushOn", number);
        x.ask("equalizerBar", number);
        for (int turn : TURNS) {
            x.ask("coilVoltage", number, turn);
        }
    }

    private static void askCircuits(Subject x) {
        x.ask("circuitCount");
        x.ask("closedCircuits");
        int count = x.model().circuits();
        for (int circuit = -1; circuit <= count; circuit++) {
            // All circuits are equally long, as every coil leads the same pitch further on.
            for (int place = -1; place <= x.model().coils() / count; place++) {
                x.ask("coilAt", circuit, place);
            }
        }
    }

    private static void askBrush(Subject x, int brush) {
        x.ask("brushBar", brush);
        x.ask("pathLength", brush);
        x.ask("pathEnd", brush);
        for (int turn : TURNS) {
            x.ask("pathVoltage", brush, turn);
        }
    }
}
