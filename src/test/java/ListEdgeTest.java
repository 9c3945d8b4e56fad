import static java.lang.Integer.MAX_VALUE;
import static java.lang.Integer.MIN_VALUE;

import java.util.Arrays;
import java.util.function.Consumer;

/** The boundary cases of the LIST and of the system calls TAG, CHANGE, DROP, CREATE and 11 (promise 10). */
public final class ListEdgeTest {
    private static final int[] WITH_A_LIST = {Checks.CHANGE, Checks.CREATE};

    public static void main(String[] args) {
        listFrom0To16Numbers();
        listOfAnotherNumber();
        listWhoseCellsAreThere();
        listWhereACellIsNotThere();
        listOfAllCellsUpToTheLast();
        numbersThatAreLeftOut();
        numbersToldBefore();
        whetherATagIsThere();
        trapAheadOfARefusal();
        tagUpTo32();
        tagUpTo40();
        tagNumbers();
        changeOfAll16();
        changeWithoutOnePlus();
        changeWithoutOneMinus();
        changeOfNothing();
        changeToATagThatIsNotThere();
        dropOfEachKind();
        dropOfWhatItHasNot();
        createTheLeast();
        createWithAllThere();
        createOfALabelWithoutL();
        createMakesCellsOf0();
        sizeOfL();
        Checks.finish();
    }

    private static int[] tags(int first, int n) {
        int[] tags = new int[n];
        for (int i = 0; i < n; i++) {
            tags[i] = first + i;
        }
        return tags;
    }

    /** Slot 1 spins, has both capabilities of the tags 0 to 19, and A is 77. */
    private static void able(FlowKernel k) {
        k.counter(0, 32);
        for (int t = 0; t < 20; t++) {
            k.capability(1, 0, t, true);
            k.capability(1, 1, t, true);
        }
        Checks.spin(k, 1);
        Checks.drive(k, 1, Checks.op(3, 77));
    }

    /** Slot 1 is able, and its label has the tags 0 to n - 1. */
    private static void ableWithLabel(FlowKernel k, int n) {
        able(k);
        for (int t = 0; t < n; t++) {
            k.tag(1, t, true);
        }
    }

    /** The calls, and then a LIST in slot 1, of which a tells. */
    private static Consumer<FlowKernel> withList(Consumer<FlowKernel> before, int... tags) {
        return k -> {
            before.accept(k);
            k.poke(1, 120, Checks.list(k, 1, tags), 0, 0);
        };
    }

    // ---- the LIST

    /** "a cell with a number n of 0 to 16, and so many cells behind it" */
    private static void listFrom0To16Numbers() {
        for (int n : new int[] {0, 1, 15, 16}) {
            FlowKernel k = new FlowKernel();
            able(k);
            int at = Checks.list(k, 1, tags(0, n));
            Checks.load(k, 1, at + 1 + n, 19);
            Checks.due("CHANGE to " + n, Checks.call(k, 1, Checks.CHANGE, at, 0, 0), 1);
            Checks.due("tags of " + n, k.slot(1, 4), n);
            Checks.due("the last of " + n, k.label(1, n - 1), n - 1);
            Checks.due("CREATE with " + n, Checks.call(k, 1, Checks.CREATE, at, 0, 0), 8);
            Checks.due("file tags of " + n, k.fileTags(8), n);
        }
    }

    /** "(TRAP 2 where .. n is another number" */
    private static void listOfAnotherNumber() {
        for (int call : WITH_A_LIST) {
            for (int n : new int[] {-1, 17, MIN_VALUE, MAX_VALUE, 128, 255}) {
                Consumer<FlowKernel> before = k -> {
                    able(k);
                    k.poke(1, 90, n, 1, 2);
                    k.poke(1, 120, 90, 0, 0);
                };
                Scene.trapsAlone("LIST of " + n + " numbers", before, 1, Checks.op(16, call), 2);
            }
        }
    }

    private static void changedBy(String what, int at, int[] cells, int size) {
        FlowKernel k = new FlowKernel();
        able(k);
        for (int i = 0; i < 8; i++) {
            Checks.drive(k, 1, Checks.op(3, i));
        }
        Checks.load(k, 1, at, cells);
        Checks.due(what, Checks.call(k, 1, Checks.CHANGE, at, 0, 0), 1);
        Checks.due(what + ": tags", k.slot(1, 4), size);
    }

    /** "A LIST at a place": the first place, and lists that end with the last cell. */
    private static void listWhoseCellsAreThere() {
        changedBy("an empty LIST at 0", 0, new int[] {0}, 0);
        changedBy("a LIST at 0", 0, new int[] {2, 5, 6}, 2);
        changedBy("an empty LIST at 127", 127, new int[] {0}, 0);
        changedBy("a LIST of one at 126", 126, new int[] {1, 9}, 1);
        changedBy("a LIST of four at 123", 123, new int[] {4, 9, 8, 7, 6}, 4);
    }

    /** "TRAP 2 where a cell is not there": the one with the number, or one behind it. */
    private static void listWhereACellIsNotThere() {
        int[][] bad = {{127, 1}, {126, 2}, {123, 5}, {112, 16}, {127, 16}, {128, 0}, {-1, 0}, {-1, 1},
            {MIN_VALUE, 0}, {MAX_VALUE, 0}, {MAX_VALUE - 15, 16}, {-16, 16}};
        for (int call : WITH_A_LIST) {
            for (int[] pair : bad) {
                Consumer<FlowKernel> before = k -> {
                    able(k);
                    if (pair[0] >= 0 && pair[0] < 128) {
                        Checks.load(k, 1, pair[0], pair[1]);
                    }
                    k.poke(1, 120, pair[0], 0, 0);
                };
                String what = "LIST of " + pair[1] + " at " + pair[0];
                Scene.trapsAlone(what, before, 1, Checks.op(16, call), 2);
            }
        }
    }

    /** The 16 numbers behind cell 111 are the last cells, and 120, which is a, is one of them. */
    private static void listOfAllCellsUpToTheLast() {
        FlowKernel k = new FlowKernel();
        Checks.spin(k, 1);
        int[] cells = tags(200, 17);
        cells[0] = 16;
        Checks.load(k, 1, 111, cells);
        Checks.due("CREATE at 111", Checks.call(k, 1, Checks.CREATE, 111, 201, 202), 8);
        // 201 and 202 are told twice, as b and c stand in the list, too.
        Checks.due("its tags", k.fileTags(8), 14);
        k.counter(3, 16);
        k.counter(6, 32);
        for (int tag : new int[] {111, 201, 202, 216, 209, 210, 217}) {
            k.tag(1, tag, true);
            k.fill(8, 0, 0);
            Checks.call(k, 1, Checks.WRITE, 8, 0, 5);
            boolean in = tag < 209 || tag == 216;
            Checks.due("tag " + tag + " is one of them", k.content(8, 0), in ? 5 : 0);
            k.tag(1, tag, false);
        }
    }

    /** "numbers that are not 0 to 255 .. are left out" */
    private static void numbersThatAreLeftOut() {
        FlowKernel k = new FlowKernel();
        k.counter(0, 1);
        k.counter(7, 32);
        Checks.spin(k, 1);
        for (int t : new int[] {0, 255}) {
            k.capability(1, 0, t, true);
            k.capability(1, 1, t, true);
        }
        int at = Checks.list(k, 1, -1, 0, 256, 255, MIN_VALUE, MAX_VALUE, -256, 512, -255);
        Checks.due("CHANGE to 0 and 255", Checks.call(k, 1, Checks.CHANGE, at, 0, 0), 1);
        Checks.due("two tags", k.slot(1, 4), 2);
        Checks.due("0", k.label(1, 0), 0);
        Checks.due("255", k.label(1, 1), 255);
        Checks.due("CREATE with both", Checks.call(k, 1, Checks.CREATE, at, 0, 0), 8);
        Checks.due("its tags", k.fileTags(8), 2);
        int[] none = tags(256, 16);
        Checks.due("CHANGE to none", Checks.call(k, 1, Checks.CHANGE, Checks.list(k, 1, none), 0, 0), 1);
        Checks.due("no tags", k.slot(1, 4), 0);
        Checks.due("CREATE with none", Checks.call(k, 1, Checks.CREATE, 90, 0, 0), 9);
        Checks.due("no file tags", k.fileTags(9), 0);
    }

    /** "and such that were told before, are left out" */
    private static void numbersToldBefore() {
        FlowKernel k = new FlowKernel();
        able(k);
        int[] same = new int[16];
        Arrays.fill(same, 7);
        Checks.due("16 times 7", Checks.call(k, 1, Checks.CHANGE, Checks.list(k, 1, same), 0, 0), 1);
        Checks.due("one tag", k.slot(1, 4), 1);
        Checks.due("it is 7", k.label(1, 0), 7);
        int at = Checks.list(k, 1, 3, 7, 3, 2, 7);
        Checks.due("3, 7 and 2", Checks.call(k, 1, Checks.CHANGE, at, 0, 0), 1);
        Checks.due("three tags", k.slot(1, 4), 3);
        Checks.due("CREATE", Checks.call(k, 1, Checks.CREATE, at, 0, 0), 8);
        Checks.due("three file tags", k.fileTags(8), 3);
    }

    /** "whether a tag is THERE does not matter" */
    private static void whetherATagIsThere() {
        FlowKernel k = new FlowKernel();
        Checks.spin(k, 1);
        Checks.due("CREATE", Checks.call(k, 1, Checks.CREATE, Checks.list(k, 1, 0, 255), 0, 0), 8);
        Checks.due("two tags that are not THERE", k.fileTags(8), 2);
        k.fill(8, 0, 5);
        Checks.due("READ without them", Checks.call(k, 1, Checks.READ, 8, 0, 0), 0);
        k.counter(0, 1);
        k.counter(7, 32);
        k.tag(1, 0, true);
        Checks.due("READ with one", Checks.call(k, 1, Checks.READ, 8, 0, 0), 0);
        k.tag(1, 255, true);
        Checks.due("READ with both", Checks.call(k, 1, Checks.READ, 8, 0, 0), 1);
    }

    /** A LIST that is none is a TRAP, whatever else would refuse the call. */
    private static void trapAheadOfARefusal() {
        Consumer<FlowKernel> full = k -> {
            for (int f = 8; f < 16; f++) {
                k.file(f, -1);
            }
            Checks.spin(k, 1);
            k.poke(1, 120, 128, 0, 0);
        };
        Scene.trapsAlone("all files are there", full, 1, Checks.op(16, Checks.CREATE), 2);
        Consumer<FlowKernel> labelled = k -> {
            ableWithLabel(k, 16);
            k.poke(1, 90, 17, 0, 0);
            k.poke(1, 120, 90, 0, 0);
        };
        Scene.trapsAlone("L could not be in it", labelled, 1, Checks.op(16, Checks.CREATE), 2);
        Scene.trapsAlone("no tag could go", labelled, 1, Checks.op(16, Checks.CHANGE), 2);
    }

    // ---- 0 TAG

    /** "the COUNTER is one more (32 at most) .. -1, if there are 32" */
    private static void tagUpTo32() {
        Consumer<FlowKernel> full = k -> {
            Scene.busy(k);
            k.counter(0, 32);
        };
        Scene.answersAlone("TAG with 32", full, 0, Checks.TAG, -1);
        FlowKernel k = new FlowKernel();
        k.counter(2, 30);
        Checks.spin(k, 2);
        Checks.due("TAG with 30", Checks.call(k, 2, Checks.TAG, 0, 0, 0), 94);
        Checks.due("TAG with 31", Checks.call(k, 2, Checks.TAG, 0, 0, 0), 95);
        Checks.due("COUNTER 32", k.slot(2, 5), 32);
        Checks.due("TAG with 32", Checks.call(k, 2, Checks.TAG, 0, 0, 0), -1);
        Checks.due("COUNTER is 32 still", k.slot(2, 5), 32);
        Checks.due("the next slot's tag is not THERE", k.tag(0, 96, true), -1);
    }

    private static void capabilities(FlowKernel k, int kind, int n) {
        k.counter(6, 32);
        k.counter(7, 32);
        for (int i = 0; i < n; i++) {
            k.capability(0, kind, 192 + i, true);
        }
        Checks.spin(k, 0);
    }

    /** "-1, if .. 40 of either capability": of PLUS alone, of MINUS alone. */
    private static void tagUpTo40() {
        for (int kind = 0; kind < 2; kind++) {
            int one = kind;
            Scene.answersAlone("TAG with 40 of " + one, k -> capabilities(k, one, 40), 0, Checks.TAG, -1);
            FlowKernel k = new FlowKernel();
            capabilities(k, one, 39);
            Checks.due("TAG with 39 of " + one, Checks.call(k, 0, Checks.TAG, 0, 0, 0), 0);
            Checks.due("40 of it", k.slot(0, 6 + one), 40);
            Checks.due("1 of the other", k.slot(0, 7 - one), 1);
            Checks.due("COUNTER", k.slot(0, 5), 1);
            Checks.due("TAG with 40 then", Checks.call(k, 0, Checks.TAG, 0, 0, 0), -1);
            k.capability(0, one, 192, false);
            Checks.due("TAG with 39 again", Checks.call(k, 0, Checks.TAG, 0, 0, 0), 1);
        }
    }

    /** "the slot has PLUS and MINUS of the new tag: its number": the first of slot 0, the last of slot 7. */
    private static void tagNumbers() {
        int[][] rows = {{0, 0, 0}, {0, 31, 31}, {1, 0, 32}, {7, 0, 224}, {7, 31, 255}};
        for (int[] row : rows) {
            FlowKernel k = new FlowKernel();
            k.counter(row[0], row[1]);
            Checks.spin(k, row[0]);
            Checks.due("TAG " + row[2], Checks.call(k, row[0], Checks.TAG, 0, 0, 0), row[2]);
            Checks.due("its label has no tag by it", k.slot(row[0], 4), 0);
            Checks.due("it is THERE", k.tag(3, row[2], true), 1);
            Checks.due("PLUS of it", k.capability(row[0], 0, row[2], false), 0);
            Checks.due("MINUS of it", k.capability(row[0], 1, row[2], false), 0);
        }
    }

    // ---- 1 CHANGE

    /** "L becomes the LIST at a": from none to 16, to others, and to none. */
    private static void changeOfAll16() {
        FlowKernel k = new FlowKernel();
        able(k);
        Checks.due("to 16", Checks.call(k, 1, Checks.CHANGE, Checks.list(k, 1, tags(0, 16)), 0, 0), 1);
        Checks.due("16 tags", k.slot(1, 4), 16);
        Checks.due("to 16 with 4 others", Checks.call(k, 1, Checks.CHANGE, Checks.list(k, 1, tags(4, 16)), 0, 0), 1);
        Checks.due("16 tags still", k.slot(1, 4), 16);
        Checks.due("the first", k.label(1, 0), 4);
        Checks.due("the last", k.label(1, 15), 19);
        Checks.due("to none", Checks.call(k, 1, Checks.CHANGE, Checks.list(k, 1), 0, 0), 1);
        Checks.due("no tags", k.slot(1, 4), 0);
        Checks.due("capabilities stay", k.slot(1, 6) + k.slot(1, 7), 40);
    }

    /** "if the slot has PLUS of each tag that comes .. else 0": MINUS of it is not enough. */
    private static void changeWithoutOnePlus() {
        for (int missing : new int[] {0, 7, 15}) {
            Consumer<FlowKernel> before = withList(k -> {
                able(k);
                k.capability(1, 0, missing, false);
            }, tags(0, 16));
            Scene.answersAlone("without PLUS of " + missing, before, 1, Checks.CHANGE, 0);
        }
    }

    /** "and MINUS of each that goes .. else 0": PLUS of it is not enough. */
    private static void changeWithoutOneMinus() {
        for (int missing : new int[] {0, 7, 15}) {
            Consumer<FlowKernel> before = k -> {
                ableWithLabel(k, 16);
                k.capability(1, 1, missing, false);
            };
            Scene.answersAlone("to none", withList(before), 1, Checks.CHANGE, 0);
            int[] others = tags(4, 16);
            if (missing < 4) {
                Scene.answersAlone("to others", withList(before, others), 1, Checks.CHANGE, 0);
            }
        }
    }

    /** Tags that neither come nor go need no capability. */
    private static void changeOfNothing() {
        Consumer<FlowKernel> labelled = k -> {
            k.counter(0, 16);
            for (int t = 0; t < 16; t++) {
                k.tag(1, t, true);
            }
            Checks.spin(k, 1);
        };
        Scene.answersAlone("16 tags that stay", withList(labelled, tags(0, 16)), 1, Checks.CHANGE, 1);
        Scene.answersAlone("none that stays none", withList(k -> Checks.spin(k, 1)), 1, Checks.CHANGE, 1);
        Scene.answersAlone("15 of 16", withList(labelled, tags(0, 15)), 1, Checks.CHANGE, 0);
    }

    private static void changeToATagThatIsNotThere() {
        for (int tag : new int[] {32, 255}) {
            Scene.answersAlone("tag " + tag, withList(ListEdgeTest::able, 0, tag), 1, Checks.CHANGE, 0);
        }
    }

    // ---- 2 DROP

    /** "(b: 0 PLUS, else MINUS) of tag a no more: 1" */
    private static void dropOfEachKind() {
        for (int tag : new int[] {0, 255}) {
            for (int b : new int[] {0, 1, -1, 2, MIN_VALUE, MAX_VALUE}) {
                FlowKernel k = new FlowKernel();
                k.counter(0, 1);
                k.counter(7, 32);
                k.capability(1, 0, tag, true);
                k.capability(1, 1, tag, true);
                Checks.spin(k, 1);
                Checks.due("DROP " + tag + " by " + b, Checks.call(k, 1, Checks.DROP, tag, b, 0), 1);
                Checks.due("PLUS", k.slot(1, 6), b == 0 ? 0 : 1);
                Checks.due("MINUS", k.slot(1, 7), b == 0 ? 1 : 0);
                Checks.due("DROP it again", Checks.call(k, 1, Checks.DROP, tag, b, 0), 0);
            }
        }
    }

    /** "0, if it had not": a tag of which it has the other kind, or none, or which is no tag. */
    private static void dropOfWhatItHasNot() {
        for (int tag : new int[] {-1, 256, MIN_VALUE, MAX_VALUE, 1, 2, 32, 255}) {
            Scene.answersAlone("DROP PLUS " + tag, Scene.with(Scene::busy, 0, tag, 0, 0), 0, Checks.DROP, 0);
        }
        for (int tag : new int[] {-1, 256, MIN_VALUE, MAX_VALUE, 32, 2, 255}) {
            Scene.answersAlone("DROP MINUS " + tag, Scene.with(Scene::busy, 1, tag, 1, 0), 1, Checks.DROP, 0);
        }
    }

    // ---- 6 CREATE

    /** "the least one of this slot that is not there .. its number, 8 times the slot's and its own" */
    private static void createTheLeast() {
        for (int s : new int[] {0, 7}) {
            FlowKernel k = new FlowKernel();
            k.file(8 * s + 1, -1);
            k.file(8 * s + 6, -1);
            Checks.spin(k, s);
            for (int own : new int[] {0, 2, 3, 4, 5, 7}) {
                Checks.due("CREATE " + own, Checks.call(k, s, Checks.CREATE, 110, 0, 0), 8 * s + own);
            }
            Checks.due("CREATE no more", Checks.call(k, s, Checks.CREATE, 110, 0, 0), -1);
            Checks.due("8 files", k.slot(s, 9), 8);
            Checks.due("no file of a neighbour", k.slot(s == 0 ? 1 : 6, 9), 0);
        }
    }

    /** "-1, if all are there" */
    private static void createWithAllThere() {
        Consumer<FlowKernel> full = k -> {
            Scene.busy(k);
            for (int f = 8; f < 16; f++) {
                k.file(f, 0);
                k.fill(f, 0, f);
            }
        };
        Scene.answersAlone("all are there", withList(full, 1), 1, Checks.CREATE, -1);
        FlowKernel k = new FlowKernel();
        full.accept(k);
        Checks.due("slot 2 has room", Checks.call(k, 2, Checks.CREATE, Checks.list(k, 2, 2), 0, 0), 16);
    }

    /** "or L is not in that label": one of 16 is missing; L alone, L with more, and an empty L are in it. */
    private static void createOfALabelWithoutL() {
        Consumer<FlowKernel> sixteen = k -> ableWithLabel(k, 16);
        Scene.answersAlone("the first is missing", withList(sixteen, tags(1, 16)), 1, Checks.CREATE, -1);
        Scene.answersAlone("the last is missing", withList(sixteen, tags(0, 15)), 1, Checks.CREATE, -1);
        Scene.answersAlone("all are missing", withList(k -> ableWithLabel(k, 1)), 1, Checks.CREATE, -1);
        int[][] rows = {{16, 16}, {15, 16}, {0, 16}, {0, 0}, {1, 1}};
        for (int[] row : rows) {
            FlowKernel k = new FlowKernel();
            ableWithLabel(k, row[0]);
            int at = Checks.list(k, 1, tags(0, row[1]));
            Checks.due(row[0] + " in " + row[1], Checks.call(k, 1, Checks.CREATE, at, 0, 0), 8);
            Checks.due("its tags", k.fileTags(8), row[1]);
            Checks.due("L stays", k.slot(1, 4), row[0]);
        }
    }

    /** "8 cells of 0", as a file is that the call file makes with the same tags. */
    private static void createMakesCellsOf0() {
        Consumer<FlowKernel> created = k -> {
            able(k);
            k.fill(8, 0, 5);
            Checks.call(k, 1, Checks.CREATE, Checks.list(k, 1, 3, 4), 0, 0);
            k.poke(1, 1, 0, 0, Checks.op(13, 2));
        };
        Consumer<FlowKernel> filed = k -> {
            able(k);
            k.file(8, 3);
            k.file(8, 4);
            k.poke(1, 120, Checks.list(k, 1, 3, 4), 0, 0);
            Checks.drive(k, 1, Checks.op(3, 8));
            k.poke(1, 1, 0, 0, Checks.op(13, 2));
        };
        Scene.same("CREATE and file", filed, created);
    }

    // ---- 11

    /** "11 A = how many tags L has": none and 16. */
    private static void sizeOfL() {
        Scene.answersAlone("no tags", ListEdgeTest::able, 1, Checks.SIZE, 0);
        Scene.answersAlone("one tag", k -> ableWithLabel(k, 1), 1, Checks.SIZE, 1);
        Scene.answersAlone("16 tags", k -> ableWithLabel(k, 16), 1, Checks.SIZE, 16);
    }
}
