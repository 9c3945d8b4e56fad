import static java.lang.Integer.MAX_VALUE;
import static java.lang.Integer.MIN_VALUE;

import java.util.function.Consumer;
import java.util.function.ToIntFunction;

/** The boundary cases of promises 11 to 18; a sentence of the document stands above the test that is its own. */
public final class ViewEdgeTest {
    private static final int[] NO_SLOTS = {-1, 8, MIN_VALUE, MAX_VALUE};
    private static final int[] NO_FILES = {-1, 64, MIN_VALUE, MAX_VALUE};

    public static void main(String[] args) {
        cellFirstAndLast();
        cellOfNoneSuch();
        slotStatesAndTraps();
        slotAtFirst();
        slotFull();
        slotOfNoneSuch();
        labelFirstAndLast();
        labelLeastFirst();
        labelOfNoneSuch();
        outputFirstAndLast();
        outputOfNoneSuch();
        outputTagsOfThen();
        outputTagsOfNoneSuch();
        contentFirstAndLast();
        contentOfNoneSuch();
        fileTagsFrom0To16();
        fileTagsOfNoneSuch();
        mayFlowByLabels();
        mayFlowOfEachPair();
        mayFlowOfNoneSuch();
        Checks.finish();
    }

    /** What is looked at stays as it is, whether it is there or not. */
    private static void seen(String what, Consumer<FlowKernel> before, ToIntFunction<FlowKernel> look, int due) {
        Scene.refused(what, before, look, due);
    }

    // ---- promise 11

    /** "A cell of a slot's memory" */
    private static void cellFirstAndLast() {
        FlowKernel k = new FlowKernel();
        for (int s : new int[] {0, 7}) {
            k.poke(s, 0, MIN_VALUE + s, 1, 2);
            k.poke(s, 125, 3, 4, MAX_VALUE - s);
            Checks.due("cell(" + s + ", 0)", k.cell(s, 0), MIN_VALUE + s);
            Checks.due("cell(" + s + ", 127)", k.cell(s, 127), MAX_VALUE - s);
        }
        seen("cell(0, 127)", Scene::busy, b -> b.cell(0, 127), 300);
    }

    /** "0 if there is none such" */
    private static void cellOfNoneSuch() {
        for (int place : new int[] {-1, 128, MIN_VALUE, MAX_VALUE}) {
            seen("cell " + place, Scene::busy, k -> k.cell(0, place), 0);
            seen("cell " + place + " of slot 7", Scene::busy, k -> k.cell(7, place), 0);
        }
        for (int s : NO_SLOTS) {
            seen("cell of slot " + s, Scene::busy, k -> k.cell(s, 66), 0);
        }
    }

    // ---- promise 12

    /** "0 IDLE, 1 LIVE, 2 HALTED, 3 TRAPPED; 1 the number of the TRAP (0 without one)" */
    private static void slotStatesAndTraps() {
        FlowKernel k = new FlowKernel();
        Checks.spin(k, 1);
        k.start(2);
        k.poke(3, 0, 31, 0, 0);
        k.poke(4, 0, Checks.op(1, -1), 0, 0);
        k.poke(5, 0, Checks.op(9, 100), 0, 0);
        for (int s = 3; s <= 5; s++) {
            k.start(s);
        }
        k.run(8);
        int[][] want = {{0, 0}, {1, 0}, {2, 0}, {3, 1}, {3, 2}, {3, 3}};
        for (int s = 0; s <= 5; s++) {
            Checks.due("state of " + s, k.slot(s, 0), want[s][0]);
            Checks.due("TRAP of " + s, k.slot(s, 1), want[s][1]);
        }
    }

    private static void slotAtFirst() {
        FlowKernel k = new FlowKernel();
        for (int s : new int[] {0, 7}) {
            for (int what = 0; what <= 10; what++) {
                Checks.due("slot(" + s + ", " + what + ")", k.slot(s, what), 0);
            }
        }
    }

    /** Slot 6 has 16 tags, COUNTER 32, 40 PLUS, 39 MINUS, 8 messages, 8 files, 64 outputs, and A is the least int. */
    private static void full(FlowKernel k) {
        k.counter(6, 32);
        k.counter(7, 32);
        for (int i = 0; i < 40; i++) {
            k.capability(6, 0, 192 + i, true);
            k.capability(6, 1, 255 - Math.min(i, 38), true);
        }
        for (int i = 0; i < 16; i++) {
            k.tag(6, 208 + i, true);
        }
        for (int i = 0; i < 8; i++) {
            k.post(i, 6, i);
            k.file(48 + i, -1);
        }
        k.poke(6, 0, Checks.op(16, Checks.OUTPUT), Checks.op(13, 0), 0);
        k.poke(6, 110, MIN_VALUE, 0, 0);
        k.start(6);
        k.run(16 * 65);
        k.poke(6, 0, Checks.op(1, 110), Checks.op(13, 1), 0);
        k.run(16);
    }

    /** "2 A; 3 PLACE; 4 tags of its label; .. 10 OUTPUTS": each at its most, and the others have none of it. */
    private static void slotFull() {
        FlowKernel k = new FlowKernel();
        full(k);
        int[] want = {1, 0, MIN_VALUE, 1, 16, 32, 40, 39, 8, 8, 64};
        for (int what = 0; what <= 10; what++) {
            Checks.due("full slot(6, " + what + ")", k.slot(6, what), want[what]);
            Checks.due("slot(5, " + what + ")", k.slot(5, what), 0);
            Checks.due("slot(7, " + what + ")", k.slot(7, what), what == 5 ? 32 : 0);
        }
    }

    /** "-1: there is no such slot or what." */
    private static void slotOfNoneSuch() {
        for (int what : new int[] {-1, 11, MIN_VALUE, MAX_VALUE}) {
            seen("slot(0, " + what + ")", Scene::busy, k -> k.slot(0, what), -1);
            seen("slot(7, " + what + ")", Scene::busy, k -> k.slot(7, what), -1);
        }
        for (int s : NO_SLOTS) {
            for (int what : new int[] {-1, 0, 10, 11}) {
                seen("slot(" + s + ", " + what + ")", Scene::busy, k -> k.slot(s, what), -1);
            }
        }
    }

    // ---- promise 13

    /** "The i-th tag (from 0 ..) of a slot's label": 0 to 15 of 16, the first of one. */
    private static void labelFirstAndLast() {
        FlowKernel k = new FlowKernel();
        full(k);
        for (int i = 0; i < 16; i++) {
            Checks.due("label(6, " + i + ")", k.label(6, i), 208 + i);
        }
        Checks.due("label(6, 16)", k.label(6, 16), -1);
        Checks.due("label(6, -1)", k.label(6, -1), -1);
        FlowKernel one = new FlowKernel();
        one.counter(7, 32);
        one.tag(0, 255, true);
        Checks.due("label(0, 0)", one.label(0, 0), 255);
        Checks.due("label(0, 1)", one.label(0, 1), -1);
    }

    /** "the least first", in whatever order they came. */
    private static void labelLeastFirst() {
        FlowKernel k = new FlowKernel();
        k.counter(0, 32);
        k.counter(1, 32);
        k.counter(7, 32);
        for (int t : new int[] {255, 31, 224, 32, 0, 63}) {
            k.tag(7, t, true);
        }
        int[] want = {0, 31, 32, 63, 224, 255, -1};
        for (int i = 0; i < want.length; i++) {
            Checks.due("label(7, " + i + ")", k.label(7, i), want[i]);
        }
        k.tag(7, 0, false);
        k.tag(7, 255, false);
        int[] fewer = {31, 32, 63, 224, -1, -1};
        for (int i = 0; i < fewer.length; i++) {
            Checks.due("label(7, " + i + ") then", k.label(7, i), fewer[i]);
        }
    }

    /** "-1 if there is none such" */
    private static void labelOfNoneSuch() {
        for (int i : new int[] {-1, 1, 16, MIN_VALUE, MAX_VALUE}) {
            seen("label(0, " + i + ")", Scene::busy, k -> k.label(0, i), -1);
        }
        for (int s : NO_SLOTS) {
            seen("label(" + s + ", 0)", Scene::busy, k -> k.label(s, 0), -1);
        }
        Checks.due("an empty label", new FlowKernel().label(0, 0), -1);
    }

    // ---- promise 14

    /** Slot 7 has put out 0, 1, 2 and so on, n of them. */
    private static void counted(FlowKernel k, int n) {
        k.poke(7, 0, Checks.op(16, Checks.OUTPUT), Checks.op(1, 120), Checks.op(6, 110));
        k.poke(7, 3, Checks.op(2, 120), Checks.op(13, 0), 0);
        k.poke(7, 110, 1, 0, 0);
        k.poke(7, 120, 1000, 0, 0);
        k.start(7);
        k.run(40 * n);
    }

    /** "The i-th OUTPUT of a slot (from 0)" */
    private static void outputFirstAndLast() {
        for (int n : new int[] {0, 1, 63, 64, 65}) {
            FlowKernel k = new FlowKernel();
            counted(k, n);
            for (int i = 0; i <= 64; i++) {
                boolean is = i < n && i < 64;
                Checks.due("output " + i + " of " + n, k.output(7, i), is ? 1000 + i : 0);
                Checks.due("outputTags " + i + " of " + n, k.outputTags(7, i), is ? 0 : -1);
            }
            Checks.due("output of another slot", k.output(0, 0), 0);
        }
    }

    /** "0 if there is none such" */
    private static void outputOfNoneSuch() {
        for (int i : new int[] {-1, 1, 64, MIN_VALUE, MAX_VALUE}) {
            seen("output(0, " + i + ")", Scene::busy, k -> k.output(0, i), 0);
        }
        for (int s : NO_SLOTS) {
            seen("output(" + s + ", 0)", Scene::busy, k -> k.output(s, 0), 0);
        }
    }

    // ---- promise 15

    /** "How many tags the slot's label had when that OUTPUT was made": none, one, 16; later tags do not matter. */
    private static void outputTagsOfThen() {
        FlowKernel k = new FlowKernel();
        k.counter(0, 32);
        Checks.spin(k, 0);
        int[] sizes = {0, 1, 16, 15};
        for (int i = 0; i < sizes.length; i++) {
            for (int t = 0; t < 16; t++) {
                k.tag(0, t, t < sizes[i]);
            }
            Checks.call(k, 0, Checks.OUTPUT, 0, 0, 0);
        }
        for (int i = 0; i < sizes.length; i++) {
            Checks.due("outputTags(0, " + i + ")", k.outputTags(0, i), sizes[i]);
        }
        Checks.due("outputTags(0, 4)", k.outputTags(0, 4), -1);
    }

    /** "-1 if there is none such" */
    private static void outputTagsOfNoneSuch() {
        for (int i : new int[] {-1, 1, 64, MIN_VALUE, MAX_VALUE}) {
            seen("outputTags(0, " + i + ")", Scene::busy, k -> k.outputTags(0, i), -1);
        }
        for (int s : NO_SLOTS) {
            seen("outputTags(" + s + ", 0)", Scene::busy, k -> k.outputTags(s, 0), -1);
        }
    }

    // ---- promise 16

    /** "Cell i of a file" */
    private static void contentFirstAndLast() {
        FlowKernel k = new FlowKernel();
        for (int f : new int[] {0, 63}) {
            k.file(f, -1);
            k.fill(f, 0, MIN_VALUE + f);
            k.fill(f, 7, MAX_VALUE - f);
            Checks.due("content(" + f + ", 0)", k.content(f, 0), MIN_VALUE + f);
            Checks.due("content(" + f + ", 7)", k.content(f, 7), MAX_VALUE - f);
            Checks.due("content(" + f + ", 1)", k.content(f, 1), 0);
        }
    }

    /** "0 if there is none such": no file number, a file that is not there, no cell. */
    private static void contentOfNoneSuch() {
        for (int i : new int[] {-1, 8, MIN_VALUE, MAX_VALUE}) {
            seen("content(9, " + i + ")", Scene::busy, k -> k.content(9, i), 0);
        }
        for (int f : NO_FILES) {
            seen("content(" + f + ", 0)", Scene::busy, k -> k.content(f, 0), 0);
            seen("content(" + f + ", 7)", Scene::busy, k -> k.content(f, 7), 0);
        }
        for (int f : new int[] {8, 10}) {
            seen("content(" + f + ", 0)", Scene::busy, k -> k.content(f, 0), 0);
            seen("content(" + f + ", 7)", Scene::busy, k -> k.content(f, 7), 0);
        }
    }

    // ---- promise 17

    /** "How many tags the label of a file has" */
    private static void fileTagsFrom0To16() {
        for (int f : new int[] {0, 63}) {
            FlowKernel k = new FlowKernel();
            k.counter(3, 32);
            k.file(f, -1);
            Checks.due("no tags", k.fileTags(f), 0);
            for (int t = 0; t < 16; t++) {
                k.file(f, 96 + t);
                Checks.due("tags", k.fileTags(f), t + 1);
            }
            k.file(f, 127);
            Checks.due("16 tags still", k.fileTags(f), 16);
        }
    }

    /** "-1 if there is no such file" */
    private static void fileTagsOfNoneSuch() {
        for (int f : new int[] {-1, 64, MIN_VALUE, MAX_VALUE, 1, 8, 10, 62}) {
            seen("fileTags(" + f + ")", Scene::busy, k -> k.fileTags(f), -1);
        }
    }

    // ---- promise 18

    /** "Whether the label of a slot is in that of another one": "if that has all its tags". */
    private static void mayFlowByLabels() {
        int[][] rows = {{0, 0, 1}, {0, 16, 1}, {1, 1, 1}, {16, 16, 1}, {15, 16, 1}, {1, 0, 0}, {16, 15, 0}, {16, 0, 0}};
        for (int[] row : rows) {
            FlowKernel k = new FlowKernel();
            k.counter(0, 32);
            k.counter(7, 32);
            for (int i = 0; i < 16; i++) {
                // Eight tags of slot 0, eight of slot 7, from both ends.
                int tag = i % 2 == 0 ? i : 256 - i;
                k.tag(0, tag, i < row[0]);
                k.tag(7, tag, i < row[1]);
            }
            Checks.due(row[0] + " tags to " + row[1], k.mayFlow(0, 7), row[2] == 1);
        }
        FlowKernel k = new FlowKernel();
        k.counter(0, 2);
        k.tag(0, 0, true);
        k.tag(7, 1, true);
        Checks.due("as many, but others", k.mayFlow(0, 7), false);
        Checks.due("and the other way", k.mayFlow(7, 0), false);
        k.tag(7, 0, true);
        Checks.due("one of two", k.mayFlow(0, 7), true);
        Checks.due("two to one", k.mayFlow(7, 0), false);
    }

    private static void mayFlowOfEachPair() {
        FlowKernel k = new FlowKernel();
        k.counter(0, 8);
        for (int s = 0; s < 8; s++) {
            for (int t = 0; t < s; t++) {
                k.tag(s, t, true);
            }
        }
        for (int from = 0; from < 8; from++) {
            for (int to = 0; to < 8; to++) {
                Checks.due("mayFlow(" + from + ", " + to + ")", k.mayFlow(from, to), from <= to);
            }
        }
    }

    /** "false if there is none such" */
    private static void mayFlowOfNoneSuch() {
        for (int s : NO_SLOTS) {
            seen("mayFlow(" + s + ", 0)", Scene::busy, k -> k.mayFlow(s, 0) ? 1 : 0, 0);
            seen("mayFlow(0, " + s + ")", Scene::busy, k -> k.mayFlow(0, s) ? 1 : 0, 0);
            seen("mayFlow(" + s + ", " + s + ")", Scene::busy, k -> k.mayFlow(s, s) ? 1 : 0, 0);
            FlowKernel k = new FlowKernel();
            Checks.due("from none to an empty label", k.mayFlow(s, 7), false);
            Checks.due("from an empty label to none", k.mayFlow(7, s), false);
        }
    }
}
