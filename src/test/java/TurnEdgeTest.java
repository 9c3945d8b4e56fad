import static java.lang.Integer.MAX_VALUE;
import static java.lang.Integer.MIN_VALUE;

/** The boundary cases of promise 10 and of "2 A TURN"; a sentence stands above the test that is its own. */
public final class TurnEdgeTest {
    private static final int FIRST_CELL = 99;
    private static final int[] WITH_A_CELL = {1, 2, 4, 5, 6, 7, 8, 9, 10, 11, 12};
    private static final int GREATEST_X = 67108863;
    private static final int LEAST_X = -67108864;

    public static void main(String[] args) {
        runFrom0To5000();
        runOtherNumbers();
        runTo512Calls();
        turnsMod8();
        onlyLiveSlots();
        placeOfACell();
        placeOfNoCell();
        opAndX();
        placeIsOneMore();
        haltDoesNoMore();
        firstAndLastCell();
        noCellThatIsWanted();
        noCellThatIsNotWanted();
        cellAtM();
        noCellAtM();
        intsThatWrap();
        cutOffTowards0();
        divisor0();
        bitByBit();
        jumpIf0();
        jumpIfBelow0();
        systemCallNumbers();
        otherInstructions();
        Checks.finish();
    }

    // ---- promise 10

    /** "n TURNS. Answers how many there were so far." */
    private static void runFrom0To5000() {
        FlowKernel k = new FlowKernel();
        Checks.due("run(0)", k.run(0), 0);
        Checks.due("run(1)", k.run(1), 1);
        Checks.due("run(5000)", k.run(5000), 5001);
        Checks.due("run(4999)", k.run(4999), 10000);
        Scene.refused("run(0) of a busy one", Scene::busy, b -> b.run(0), 32);
    }

    /** "-1: n is not 0 to 5000." */
    private static void runOtherNumbers() {
        for (int n : new int[] {-1, 5001, -8, -5000, MIN_VALUE, MAX_VALUE}) {
            Scene.refused("run(" + n + ")", Scene::busy, k -> k.run(n), -1);
            FlowKernel live = new FlowKernel();
            live.start(0);
            live.run(n);
            Checks.due("no turn by run(" + n + ")", live.slot(0, 0), 1);
        }
    }

    /** As many turns as 512 calls can ask for. */
    private static void runTo512Calls() {
        FlowKernel k = new FlowKernel();
        Checks.spin(k, 0);
        Checks.spin(k, 7);
        for (int i = 1; i <= 507; i++) {
            Checks.due("run " + i, k.run(5000), 5000 * i);
        }
        Checks.due("slot 0 is LIVE still", k.slot(0, 0), 1);
    }

    // ---- a turn

    /** "A TURN is of the slot turns mod 8 (turns being how many there were)." */
    private static void turnsMod8() {
        for (int turns = 0; turns <= 17; turns++) {
            FlowKernel k = new FlowKernel();
            k.run(turns);
            for (int s = 0; s < 8; s++) {
                k.start(s);
            }
            k.run(1);
            for (int s = 0; s < 8; s++) {
                Checks.due("turn " + turns + ": slot " + s, k.slot(s, 0), s == turns % 8 ? 2 : 1);
            }
        }
    }

    /** "If the slot is LIVE, it does one instruction, else nothing." */
    private static void onlyLiveSlots() {
        FlowKernel k = new FlowKernel();
        int set = Checks.op(3, 9);
        k.poke(0, 0, set, set, set);
        k.poke(1, 0, 0, set, set);
        k.poke(2, 0, 31, set, set);
        k.poke(3, 0, set, set, set);
        k.start(1);
        k.start(2);
        k.start(3);
        k.run(16);
        int[][] want = {{0, 0, 0, 0}, {2, 0, 0, 1}, {3, 1, 0, 1}, {1, 0, 9, 2}};
        for (int s = 0; s < 4; s++) {
            for (int what = 0; what < 4; what++) {
                Checks.due("slot(" + s + ", " + what + ")", k.slot(s, what), want[s][what]);
            }
        }
    }

    /** "The instruction is the cell v at PLACE": the first and the last one. */
    private static void placeOfACell() {
        FlowKernel k = new FlowKernel();
        k.poke(0, 0, Checks.op(13, 127), 0, 0);
        k.poke(0, 125, 0, 0, Checks.op(13, 0));
        k.start(0);
        for (int i = 0; i < 4; i++) {
            k.run(8);
            Checks.due("PLACE", k.slot(0, 3), i % 2 == 0 ? 127 : 0);
            Checks.due("LIVE", k.slot(0, 0), 1);
        }
    }

    /** "(TRAP 2, if there is none such)": PLACE stays, as there was no cell. */
    private static void placeOfNoCell() {
        for (int x : new int[] {-1, 128, GREATEST_X, LEAST_X}) {
            FlowKernel k = Checks.after(5, 0, Checks.op(13, x));
            Checks.due("not yet", k.slot(0, 0), 1);
            k.run(8);
            Checks.trapped("PLACE " + x, k, 2, x, 5);
        }
        FlowKernel end = new FlowKernel();
        end.poke(0, 0, Checks.op(13, 127), 0, 0);
        end.poke(0, 125, 0, 0, Checks.op(3, 6));
        end.start(0);
        end.run(16);
        Checks.due("behind the last cell it is LIVE", end.slot(0, 0), 1);
        Checks.due("PLACE 128", end.slot(0, 3), 128);
        end.run(8);
        Checks.trapped("PLACE 128 by one more", end, 2, 128, 6);
    }

    /** "op is v mod 32 (0 to 31), x is (v - op) / 32", for v below 0, too. */
    private static void opAndX() {
        int[][] sets = {{3, 0}, {35, 1}, {-29, -1}, {-61, -2}, {MAX_VALUE - 28, GREATEST_X}, {MIN_VALUE + 3, LEAST_X}};
        for (int[] set : sets) {
            Checks.due("v " + set[0] + " is A = x", Checks.after(5, 0, set[0]).slot(0, 2), set[1]);
        }
        for (int v : new int[] {0, 32, -32, MIN_VALUE, MAX_VALUE - 31}) {
            Checks.due("v " + v + " is 0", Checks.after(5, 0, v).slot(0, 0), 2);
        }
        for (int v : new int[] {31, 63, -1, -33, MAX_VALUE, MIN_VALUE + 31}) {
            Checks.trapped("v " + v + " is 31", Checks.after(5, 0, v), 1, 2, 5);
        }
    }

    /** "PLACE becomes one more; then ..": also of one that halts, and a jump takes the place of it. */
    private static void placeIsOneMore() {
        Checks.due("0", Checks.after(5, 0, 0).slot(0, 3), 2);
        Checks.due("3", Checks.after(5, 0, 3).slot(0, 3), 2);
        Checks.due("13 to itself", Checks.after(5, 0, Checks.op(13, 1)).slot(0, 3), 1);
        Checks.due("a system call", Checks.after(5, 0, Checks.op(16, 11)).slot(0, 3), 2);
        Checks.due("2 over the next instruction", Checks.after(Checks.op(3, 8), 0, Checks.op(2, 2)).cell(0, 2), 259);
    }

    // ---- the instructions

    /** "0 it is HALTED.", whatever x is: A stays, and so it is with turns that come later. */
    private static void haltDoesNoMore() {
        for (int x : new int[] {0, 1, 127, -1, 128, GREATEST_X, LEAST_X}) {
            FlowKernel k = Checks.after(5, 6, Checks.op(0, x));
            k.run(80);
            int[] want = {2, 0, 5, 2};
            for (int what = 0; what < 4; what++) {
                Checks.due("0 with " + x + ": slot(0, " + what + ")", k.slot(0, what), want[what]);
            }
        }
    }

    /** A kernel whose slot 0 has done A = a, then the instruction; cell 0 is 99, cell 99 is -5, cell 127 is last. */
    private static FlowKernel done(int a, int last, int instruction) {
        FlowKernel k = new FlowKernel();
        k.poke(0, 0, FIRST_CELL, Checks.op(1, 100), instruction);
        k.poke(0, 98, 0, -5, a);
        k.poke(0, 125, 0, 0, last);
        k.start(0);
        k.run(17);
        return k;
    }

    private static int result(int op, int a, int m) {
        switch (op) {
            case 1: return m;
            case 6: return a + m;
            case 7: return a - m;
            case 8: return a * m;
            case 9: return a / m;
            case 10: return a % m;
            case 11: return a & m;
            default: return a ^ m;
        }
    }

    /** "M is the cell at x": the first and the last cell. */
    private static void firstAndLastCell() {
        for (int op : new int[] {1, 6, 7, 8, 9, 10, 11, 12}) {
            Checks.due(op + " at 0", done(1234, 7, Checks.op(op, 0)).slot(0, 2), result(op, 1234, FIRST_CELL));
            Checks.due(op + " at 127", done(1234, 7, Checks.op(op, 127)).slot(0, 2), result(op, 1234, 7));
        }
        Checks.due("2 at 0", done(1234, 7, Checks.op(2, 0)).cell(0, 0), 1234);
        Checks.due("2 at 127", done(1234, 7, Checks.op(2, 127)).cell(0, 127), 1234);
        Checks.due("4 at 0", done(1234, 7, Checks.op(4, 0)).slot(0, 2), -5);
        Checks.due("4 at 127", done(1234, 100, Checks.op(4, 127)).slot(0, 2), 1234);
        Checks.due("5 at 0", done(1234, 7, Checks.op(5, 0)).cell(0, FIRST_CELL), 1234);
        Checks.due("5 at 127", done(1234, 50, Checks.op(5, 127)).cell(0, 50), 1234);
    }

    /** "TRAP 2, if there is none such and it is wanted" */
    private static void noCellThatIsWanted() {
        for (int op : WITH_A_CELL) {
            for (int x : new int[] {-1, 128, GREATEST_X, LEAST_X}) {
                Scene.trapsAlone(op + " at " + x, Scene::busy, 0, Checks.op(op, x), 2);
            }
        }
    }

    /** "and it is wanted": 0, 3 and 13 to 16 want none. */
    private static void noCellThatIsNotWanted() {
        for (int x : new int[] {-1, 128, GREATEST_X, LEAST_X}) {
            Checks.due("0 at " + x, Checks.after(0, 0, Checks.op(0, x)).slot(0, 0), 2);
            Checks.due("3 at " + x, Checks.after(0, 0, Checks.op(3, x)).slot(0, 2), x);
            Checks.due("13 at " + x, Checks.after(0, 0, Checks.op(13, x)).slot(0, 3), x);
            Checks.due("14 at " + x, Checks.after(0, 0, Checks.op(14, x)).slot(0, 3), x);
            Checks.due("14 not to " + x, Checks.after(1, 0, Checks.op(14, x)).slot(0, 3), 2);
            Checks.due("15 at " + x, Checks.after(-1, 0, Checks.op(15, x)).slot(0, 3), x);
            Checks.due("15 not to " + x, Checks.after(0, 0, Checks.op(15, x)).slot(0, 3), 2);
            for (int op : new int[] {0, 3, 13, 14, 15}) {
                Checks.due(op + " at " + x + " is no TRAP", Checks.after(0, 0, Checks.op(op, x)).slot(0, 1), 0);
            }
        }
    }

    /** "4 A = the cell at M. 5 the cell at M = A": M is 0 or 127. */
    private static void cellAtM() {
        Checks.due("4, M is 0", done(1234, 0, Checks.op(4, 127)).slot(0, 2), FIRST_CELL);
        Checks.due("4, M is 127", done(1234, 127, Checks.op(4, 127)).slot(0, 2), 127);
        Checks.due("5, M is 0", done(1234, 0, Checks.op(5, 127)).cell(0, 0), 1234);
        Checks.due("5, M is 127", done(1234, 127, Checks.op(5, 127)).cell(0, 127), 1234);
        Checks.due("5 leaves M", done(1234, 0, Checks.op(5, 127)).cell(0, 127), 0);
        Checks.due("4 leaves M", done(1234, 0, Checks.op(4, 127)).cell(0, 127), 0);
    }

    /** "(TRAP 2 of these, too)": M is no place. */
    private static void noCellAtM() {
        for (int m : new int[] {-1, 128, MIN_VALUE, MAX_VALUE}) {
            for (int op : new int[] {4, 5}) {
                Scene.trapsAlone(op + ", M is " + m, Scene.with(Scene::busy, 0, m, 0, 0), 0, Checks.op(op, 120), 2);
            }
        }
    }

    private static void gives(int op, int a, int m, int want) {
        FlowKernel k = Checks.after(a, m, Checks.op(op, 101));
        Checks.due(a + " by " + op + " with " + m, k.slot(0, 2), want);
        Checks.due("it is LIVE", k.slot(0, 0), 1);
        Checks.due("M stays", k.cell(0, 101), m);
    }

    /** "ints that wrap": 6 A + M, 7 A - M, 8 A * M. */
    private static void intsThatWrap() {
        gives(6, MAX_VALUE, 0, MAX_VALUE);
        gives(6, MAX_VALUE, 1, MIN_VALUE);
        gives(6, MIN_VALUE, -1, MAX_VALUE);
        gives(6, MIN_VALUE, MIN_VALUE, 0);
        gives(7, MIN_VALUE, 0, MIN_VALUE);
        gives(7, MIN_VALUE, 1, MAX_VALUE);
        gives(7, MAX_VALUE, -1, MIN_VALUE);
        gives(7, 0, MIN_VALUE, MIN_VALUE);
        gives(8, 46341, 46341, -2147479015);
        gives(8, 46340, 46340, 2147395600);
        gives(8, MIN_VALUE, -1, MIN_VALUE);
        gives(8, MAX_VALUE, MAX_VALUE, 1);
        gives(8, 65536, 65536, 0);
        gives(1, 0, MIN_VALUE, MIN_VALUE);
        gives(1, 0, MAX_VALUE, MAX_VALUE);
    }

    /** "9 A / M, 10 what is left by it (cut off towards 0": of both signs, and the one quotient that wraps. */
    private static void cutOffTowards0() {
        int[][] rows = {{7, 2, 3, 1}, {-7, 2, -3, -1}, {7, -2, -3, 1}, {-7, -2, 3, -1}, {1, 2, 0, 1}, {-1, 2, 0, -1},
            {0, 5, 0, 0}, {0, -5, 0, 0}, {6, 3, 2, 0}, {-6, 3, -2, 0}, {MIN_VALUE, -1, MIN_VALUE, 0},
            {MIN_VALUE, 1, MIN_VALUE, 0}, {MAX_VALUE, -1, -MAX_VALUE, 0}, {MIN_VALUE, MIN_VALUE, 1, 0},
            {MAX_VALUE, MIN_VALUE, 0, MAX_VALUE}, {MIN_VALUE, MAX_VALUE, -1, -1}, {MIN_VALUE, 2, -1073741824, 0}};
        for (int[] row : rows) {
            gives(9, row[0], row[1], row[2]);
            gives(10, row[0], row[1], row[3]);
        }
    }

    /** "TRAP 3, if M is 0" */
    private static void divisor0() {
        for (int op : new int[] {9, 10}) {
            Scene.trapsAlone(op + " by 0", Scene.with(Scene::busy, 0, 0, 5, 5), 0, Checks.op(op, 120), 3);
            for (int a : new int[] {0, MIN_VALUE, MAX_VALUE}) {
                Checks.trapped(a + " by " + op + " with 0", Checks.after(a, 0, Checks.op(op, 101)), 3, 2, a);
            }
        }
    }

    /** "11 A and M, bit by bit. 12 either alone.": the top bit, too. */
    private static void bitByBit() {
        gives(11, -1, MIN_VALUE, MIN_VALUE);
        gives(11, MAX_VALUE, MIN_VALUE, 0);
        gives(11, -1, 0, 0);
        gives(11, 12, 10, 8);
        gives(12, -1, MIN_VALUE, MAX_VALUE);
        gives(12, MAX_VALUE, MIN_VALUE, -1);
        gives(12, -1, -1, 0);
        gives(12, 12, 10, 6);
    }

    /** "14, if A is 0." */
    private static void jumpIf0() {
        int[][] rows = {{0, 50}, {1, 2}, {-1, 2}, {MIN_VALUE, 2}, {MAX_VALUE, 2}};
        for (int[] row : rows) {
            FlowKernel k = Checks.after(row[0], 0, Checks.op(14, 50));
            Checks.due("14 with " + row[0], k.slot(0, 3), row[1]);
            Checks.due("A stays", k.slot(0, 2), row[0]);
        }
    }

    /** "15, if A is below 0." */
    private static void jumpIfBelow0() {
        int[][] rows = {{0, 2}, {1, 2}, {-1, 50}, {MIN_VALUE, 50}, {MAX_VALUE, 2}};
        for (int[] row : rows) {
            FlowKernel k = Checks.after(row[0], 0, Checks.op(15, 50));
            Checks.due("15 with " + row[0], k.slot(0, 3), row[1]);
            Checks.due("A stays", k.slot(0, 2), row[0]);
        }
    }

    /** "16 SYSTEM CALL x.", and of the system calls "Others: TRAP 1." */
    private static void systemCallNumbers() {
        for (int x = 0; x <= 11; x++) {
            FlowKernel k = new FlowKernel();
            Checks.spin(k, 0);
            Checks.call(k, 0, x, 110, 0, 0);
            Checks.due("system call " + x + " is one", k.slot(0, 0), 1);
        }
        for (int x : new int[] {-1, 12, 13, 31, 32, GREATEST_X, LEAST_X}) {
            Scene.trapsAlone("system call " + x, Scene::busy, 0, Checks.op(16, x), 1);
        }
    }

    /** "Others: TRAP 1.": 17 to 31, whether there is a cell at x or not. */
    private static void otherInstructions() {
        for (int op = 17; op <= 31; op++) {
            for (int x : new int[] {0, 127, -1, 128}) {
                Scene.trapsAlone("instruction " + op + " at " + x, Scene::busy, 0, Checks.op(op, x), 1);
            }
        }
    }
}
