/** Compares answers with those that are due, and drives one slot of a kernel by single instructions. */
final class Checks {
    static final int TAG = 0, CHANGE = 1, DROP = 2, SEND = 3, PASS = 4, RECEIVE = 5, CREATE = 6,
            READ = 7, WRITE = 8, SPAWN = 9, OUTPUT = 10, SIZE = 11;

    private static int wrong = 0;
    private static int checked = 0;

    private Checks() {
    }

    static void due(String what, long got, long want) {
        checked++;
        if (got != want) {
            wrong++;
            System.out.println(what + " answered " + got + ", due is " + want);
        }
    }

    static void due(String what, boolean got, boolean want) {
        due(what, got ? 1 : 0, want ? 1 : 0);
    }

    static void finish() {
        System.out.println(checked + " answers looked at, " + wrong + " not as due");
        if (wrong != 0) {
            System.exit(1);
        }
    }

    /** An instruction cell. */
    static int op(int op, int x) {
        return 32 * x + op;
    }

    /** Sets cells one by one, and leaves those behind them as they are. */
    static void load(FlowKernel k, int slot, int at, int... cells) {
        for (int i = 0; i < cells.length; i++) {
            int place = at + i;
            int base = Math.min(place, 125);
            int[] three = {k.cell(slot, base), k.cell(slot, base + 1), k.cell(slot, base + 2)};
            three[place - base] = cells[i];
            k.poke(slot, base, three[0], three[1], three[2]);
        }
    }

    /** Starts a slot that turns on its place until it is driven. */
    static void spin(FlowKernel k, int slot) {
        load(k, slot, 0, op(13, 0));
        k.start(slot);
    }

    /** One instruction of a spinning slot; behind it the slot spins again. All other slots have one turn, too. */
    static void drive(FlowKernel k, int slot, int instruction) {
        int place = k.slot(slot, 3);
        if (place > 60) {
            load(k, slot, place, op(13, 0));
            load(k, slot, 0, op(13, 0));
            k.run(8);
            place = 0;
        }
        load(k, slot, place, instruction, op(13, place + 1));
        k.run(8);
    }

    /** A system call of a spinning slot: what A is afterwards. */
    static int call(FlowKernel k, int slot, int number, int a, int b, int c) {
        load(k, slot, 120, a, b, c);
        drive(k, slot, op(16, number));
        return k.slot(slot, 2);
    }

    /** A LIST in the cells from 90 on. */
    static int list(FlowKernel k, int slot, int... tags) {
        load(k, slot, 90, tags.length);
        load(k, slot, 91, tags);
        return 90;
    }
}
