/** Promise 10, and what a turn and its instructions do. */
public final class InstructionTest {
    public static void main(String[] args) {
        run();
        turnsGoRound();
        halt();
        moves();
        arithmetic();
        jumps();
        trapsOfPlace();
        trapsOfCells();
        trapsOfDivisor();
        unknownInstructions();
        Checks.finish();
    }

    private static void run() {
        FlowKernel k = new FlowKernel();
        Checks.due("run(-1)", k.run(-1), -1);
        Checks.due("run(5001)", k.run(5001), -1);
        Checks.due("run(MIN)", k.run(Integer.MIN_VALUE), -1);
        Checks.due("run(MAX)", k.run(Integer.MAX_VALUE), -1);
        Checks.due("run(0)", k.run(0), 0);
        Checks.due("run(5000)", k.run(5000), 5000);
        Checks.due("run(3)", k.run(3), 5003);
        Checks.due("run(5001) later", k.run(5001), -1);
        Checks.due("none of them was", k.run(0), 5003);
    }

    private static void turnsGoRound() {
        FlowKernel k = new FlowKernel();
        for (int s = 0; s < 8; s++) {
            k.poke(s, 0, Checks.op(3, 10 + s), Checks.op(3, 20 + s), Checks.op(3, 30 + s));
            k.start(s);
        }
        for (int turn = 0; turn < 16; turn++) {
            int s = turn % 8;
            Checks.due("place ahead of turn " + turn, k.slot(s, 3), turn / 8);
            k.run(1);
            Checks.due("place after turn " + turn, k.slot(s, 3), turn / 8 + 1);
            Checks.due("A after turn " + turn, k.slot(s, 2), (turn < 8 ? 10 : 20) + s);
        }
        FlowKernel late = new FlowKernel();
        late.run(3);
        late.start(2);
        late.start(3);
        late.run(1);
        Checks.due("turn 3 is of slot 3", late.slot(3, 0), 2);
        Checks.due("turn 3 is not of slot 2", late.slot(2, 0), 1);
    }

    private static void halt() {
        FlowKernel k = new FlowKernel();
        k.poke(0, 0, Checks.op(3, 4), Checks.op(0, 77), Checks.op(3, 5));
        k.start(0);
        k.run(800);
        Checks.due("HALTED", k.slot(0, 0), 2);
        Checks.due("no TRAP", k.slot(0, 1), 0);
        Checks.due("PLACE is one more", k.slot(0, 3), 2);
        Checks.due("A stays", k.slot(0, 2), 4);
        Checks.due("an IDLE slot does nothing", k.slot(1, 3), 0);
    }

    private static void moves() {
        Checks.due("1", Checks.after(5, -6, Checks.op(1, 101)).slot(0, 2), -6);
        Checks.due("2", Checks.after(5, -6, Checks.op(2, 101)).cell(0, 101), 5);
        Checks.due("2 at 0", Checks.after(5, -6, Checks.op(2, 0)).cell(0, 0), 5);
        Checks.due("2 at 127", Checks.after(5, -6, Checks.op(2, 127)).cell(0, 127), 5);
        Checks.due("3", Checks.after(5, -6, Checks.op(3, 99)).slot(0, 2), 99);
        Checks.due("3 below 0", Checks.after(5, -6, Checks.op(3, -99)).slot(0, 2), -99);
        Checks.due("3 greatest", Checks.after(5, -6, 0x7fffffe3).slot(0, 2), 67108863);
        Checks.due("3 least", Checks.after(5, -6, 0x80000003).slot(0, 2), -67108864);
        Checks.due("4", Checks.after(5, 100, Checks.op(4, 101)).slot(0, 2), 5);
        Checks.due("4 at 127", Checks.after(5, 127, Checks.op(4, 101)).slot(0, 2), 0);
        Checks.due("5", Checks.after(5, 127, Checks.op(5, 101)).cell(0, 127), 5);
        Checks.due("5 leaves M", Checks.after(5, 127, Checks.op(5, 101)).cell(0, 101), 127);
        Checks.due("5 at 0", Checks.after(5, 0, Checks.op(5, 101)).cell(0, 0), 5);
    }

    private static void arithmetic() {
        int max = Integer.MAX_VALUE;
        int min = Integer.MIN_VALUE;
        Checks.due("6", Checks.after(5, -6, Checks.op(6, 101)).slot(0, 2), -1);
        Checks.due("6 wraps", Checks.after(max, 1, Checks.op(6, 101)).slot(0, 2), min);
        Checks.due("7", Checks.after(5, -6, Checks.op(7, 101)).slot(0, 2), 11);
        Checks.due("7 wraps", Checks.after(min, 1, Checks.op(7, 101)).slot(0, 2), max);
        Checks.due("8", Checks.after(5, -6, Checks.op(8, 101)).slot(0, 2), -30);
        Checks.due("8 wraps", Checks.after(65536, 65537, Checks.op(8, 101)).slot(0, 2), 65536);
        Checks.due("9", Checks.after(-17, 5, Checks.op(9, 101)).slot(0, 2), -3);
        Checks.due("9 below 0", Checks.after(17, -5, Checks.op(9, 101)).slot(0, 2), -3);
        Checks.due("9 wraps", Checks.after(min, -1, Checks.op(9, 101)).slot(0, 2), min);
        Checks.due("10", Checks.after(-17, 5, Checks.op(10, 101)).slot(0, 2), -2);
        Checks.due("10 below 0", Checks.after(17, -5, Checks.op(10, 101)).slot(0, 2), 2);
        Checks.due("10 of the least", Checks.after(min, -1, Checks.op(10, 101)).slot(0, 2), 0);
        Checks.due("11", Checks.after(12, 10, Checks.op(11, 101)).slot(0, 2), 8);
        Checks.due("12", Checks.after(12, 10, Checks.op(12, 101)).slot(0, 2), 6);
        Checks.due("arithmetic leaves M", Checks.after(12, 10, Checks.op(12, 101)).cell(0, 101), 10);
        Checks.due("arithmetic goes on", Checks.after(12, 10, Checks.op(6, 101)).slot(0, 0), 1);
    }

    private static void jumps() {
        Checks.due("13", Checks.after(5, 0, Checks.op(13, 50)).slot(0, 3), 50);
        Checks.due("13 to nowhere", Checks.after(5, 0, Checks.op(13, 900)).slot(0, 3), 900);
        Checks.due("13 to nowhere is no TRAP yet", Checks.after(5, 0, Checks.op(13, 900)).slot(0, 0), 1);
        Checks.due("14 with 0", Checks.after(0, 0, Checks.op(14, 50)).slot(0, 3), 50);
        Checks.due("14 with 1", Checks.after(1, 0, Checks.op(14, 50)).slot(0, 3), 2);
        Checks.due("14 with -1", Checks.after(-1, 0, Checks.op(14, 50)).slot(0, 3), 2);
        Checks.due("15 with -1", Checks.after(-1, 0, Checks.op(15, 50)).slot(0, 3), 50);
        Checks.due("15 with 0", Checks.after(0, 0, Checks.op(15, 50)).slot(0, 3), 2);
        Checks.due("15 with 1", Checks.after(1, 0, Checks.op(15, 50)).slot(0, 3), 2);
        Checks.due("jumps leave A", Checks.after(-1, 0, Checks.op(15, 50)).slot(0, 2), -1);
    }

    private static void trapsOfPlace() {
        for (int place : new int[] {-1, 128, 67108863, -67108864}) {
            FlowKernel k = Checks.after(5, 0, Checks.op(13, place));
            k.run(8);
            Checks.trapped("no cell at " + place, k, 2, place, 5);
        }
        FlowKernel end = new FlowKernel();
        end.poke(0, 125, 0, 0, Checks.op(3, 8));
        end.poke(0, 0, Checks.op(13, 127), 0, 0);
        end.start(0);
        end.run(16);
        Checks.due("the last cell is done", end.slot(0, 2), 8);
        end.run(8);
        Checks.trapped("behind the last cell", end, 2, 128, 8);
    }

    private static void trapsOfCells() {
        for (int op : new int[] {1, 2, 4, 5, 6, 7, 8, 9, 10, 11, 12}) {
            Checks.trapped(op + " at -1", Checks.after(5, 1, Checks.op(op, -1)), 2, 2, 5);
            Checks.trapped(op + " at 128", Checks.after(5, 1, Checks.op(op, 128)), 2, 2, 5);
        }
        for (int op : new int[] {4, 5}) {
            for (int m : new int[] {-1, 128, Integer.MIN_VALUE, Integer.MAX_VALUE}) {
                Checks.trapped(op + " by " + m, Checks.after(5, m, Checks.op(op, 101)), 2, 2, 5);
            }
        }
        Checks.due("5 did nothing else", Checks.after(5, 128, Checks.op(5, 101)).cell(0, 101), 128);
    }

    private static void trapsOfDivisor() {
        Checks.trapped("9 by 0", Checks.after(5, 0, Checks.op(9, 101)), 3, 2, 5);
        Checks.trapped("10 by 0", Checks.after(5, 0, Checks.op(10, 101)), 3, 2, 5);
    }

    private static void unknownInstructions() {
        for (int op = 17; op < 32; op++) {
            Checks.trapped("instruction " + op, Checks.after(5, 0, Checks.op(op, 1)), 1, 2, 5);
            Checks.trapped("instruction " + op + " with no cell", Checks.after(5, 0, Checks.op(op, -1)), 1, 2, 5);
        }
        for (int x : new int[] {-1, 12, 13, 67108863, -67108864}) {
            Checks.trapped("system call " + x, Checks.after(5, 0, Checks.op(16, x)), 1, 2, 5);
        }
    }
}
