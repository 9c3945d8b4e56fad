/**
 * Compares answers with those that are due, and drives one slot of a kernel by single instructions.
 * It is sparing with calls, as nothing is promised of an object after its 512th one.
 */
final class Checks {
    static final int TAG = 0, CHANGE = 1, DROP = 2, SEND = 3, PASS = 4, RECEIVE = 5, CREATE = 6,
            READ = 7, WRITE = 8, SPAWN = 9, OUTPUT = 10, SIZE = 11;

    private static int wrong = 0;
    private static int checked = 0;

    private Checks() {
    }

    static void due(String what, long got, long want) {
        checked++;
        if (got != want) {
            wrong++;
            System.out.println(what + " answered " + got + ", due is " + want);
        }
    }

    static void due(String what, boolean got, boolean want) {
        due(what, got ? 1 : 0, want ? 1 : 0);
    }

    static void finish() {
        System.out.println(checked + " answers looked at, " + wrong + " not as due");
        if (wrong != 0) {
            System.exit(1);
        }
    }

    /** An instruction cell. */
    static int op(int op, int x) {
        return 32 * x + op;
    }

    /** Sets cells from a place on, and leaves those around them as they are. */
    static void load(FlowKernel k, int slot, int at, int... cells) {
        for (int done = 0; done < cells.length; done += 3) {
            int place = Math.min(at + done, 125);
            int[] three = new int[3];
            for (int i = 0; i < 3; i++) {
                int n = place + i - at;
                three[i] = n >= 0 && n < cells.length ? cells[n] : k.cell(slot, place + i);
            }
            k.poke(slot, place, three[0], three[1], three[2]);
        }
    }

    /** Starts a slot that turns on its place until it is driven; its cells 0 to 63 are then the driver's. */
    static void spin(FlowKernel k, int slot) {
        k.poke(slot, 0, op(13, 0), 0, 0);
        k.start(slot);
    }

    /** One instruction of a spinning slot; behind it the slot spins again. All other slots have one turn, too. */
    static void drive(FlowKernel k, int slot, int instruction) {
        int place = k.slot(slot, 3);
        if (place > 60) {
            k.poke(slot, place, op(13, 0), 0, 0);
            k.poke(slot, 0, op(13, 0), 0, 0);
            k.run(8);
            place = 0;
        }
        k.poke(slot, place, instruction, op(13, place + 1), 0);
        k.run(8);
    }

    /** A system call of a spinning slot: what A is afterwards. */
    static int call(FlowKernel k, int slot, int number, int a, int b, int c) {
        k.poke(slot, 120, a, b, c);
        drive(k, slot, op(16, number));
        return k.slot(slot, 2);
    }

    /** A LIST in the cells from 90 on. */
    static int list(FlowKernel k, int slot, int... tags) {
        int[] cells = new int[tags.length + 1];
        cells[0] = tags.length;
        System.arraycopy(tags, 0, cells, 1, tags.length);
        load(k, slot, 90, cells);
        return 90;
    }

    /** A kernel whose slot 0 has done: A = a (from cell 100), then the instruction, with cell 101 as m. */
    static FlowKernel after(int a, int m, int instruction) {
        FlowKernel k = new FlowKernel();
        k.poke(0, 100, a, m, 0);
        k.poke(0, 0, op(1, 100), instruction, 0);
        k.start(0);
        k.run(9);
        return k;
    }

    /** Slot 0 is TRAPPED, and stays as it is. */
    static void trapped(String what, FlowKernel k, int trap, int place, int a) {
        for (int round = 0; round < 2; round++) {
            due(what + ": TRAPPED", k.slot(0, 0), 3);
            due(what + ": TRAP", k.slot(0, 1), trap);
            due(what + ": A", k.slot(0, 2), a);
            due(what + ": PLACE", k.slot(0, 3), place);
            k.run(80);
        }
    }
}
