/** Promises 11 to 18: what can be seen. */
public final class ViewTest {
    private static final int[] NONE = {-1, Integer.MIN_VALUE, Integer.MAX_VALUE};

    public static void main(String[] args) {
        cell();
        slot();
        label();
        outputs();
        contents();
        mayFlow();
        Checks.finish();
    }

    private static void cell() {
        FlowKernel k = new FlowKernel();
        k.poke(0, 0, 11, 12, 13);
        k.poke(7, 125, 21, 22, 23);
        Checks.due("first cell", k.cell(0, 0), 11);
        Checks.due("last cell", k.cell(7, 127), 23);
        Checks.due("cell 128", k.cell(7, 128), 0);
        Checks.due("slot 8", k.cell(8, 0), 0);
        for (int n : NONE) {
            Checks.due("cell " + n, k.cell(0, n), 0);
            Checks.due("cell of slot " + n, k.cell(n, 0), 0);
        }
    }

    private static void slot() {
        FlowKernel k = new FlowKernel();
        k.counter(3, 9);
        k.tag(3, 96, true);
        k.tag(3, 97, true);
        k.capability(3, 0, 96, true);
        k.capability(3, 1, 96, true);
        k.capability(3, 1, 97, true);
        k.capability(3, 1, 98, true);
        for (int i = 0; i < 4; i++) {
            k.post(0, 3, i);
        }
        for (int i = 24; i < 29; i++) {
            k.file(i, -1);
        }
        Checks.spin(k, 3);
        for (int i = 0; i < 6; i++) {
            Checks.call(k, 3, Checks.OUTPUT, i, 0, 0);
        }
        Checks.drive(k, 3, Checks.op(3, -44));
        int[] want = {1, 0, -44, 7, 2, 9, 1, 3, 4, 5, 6};
        for (int what = 0; what <= 10; what++) {
            Checks.due("what " + what, k.slot(3, what), want[what]);
        }
        Checks.due("what 11", k.slot(3, 11), -1);
        Checks.due("slot 8", k.slot(8, 0), -1);
        for (int n : NONE) {
            Checks.due("what " + n, k.slot(3, n), -1);
            Checks.due("slot " + n, k.slot(n, 0), -1);
        }
    }

    private static void label() {
        FlowKernel k = new FlowKernel();
        k.counter(0, 32);
        k.counter(7, 32);
        k.counter(4, 1);
        int[] tags = {255, 3, 128, 31, 224, 0};
        int[] sorted = {0, 3, 31, 128, 224, 255};
        for (int t : tags) {
            k.tag(5, t, true);
        }
        for (int i = 0; i < 6; i++) {
            Checks.due("label " + i, k.label(5, i), sorted[i]);
        }
        Checks.due("label 6", k.label(5, 6), -1);
        Checks.due("label of an empty one", k.label(4, 0), -1);
        Checks.due("label of slot 8", k.label(8, 0), -1);
        for (int n : NONE) {
            Checks.due("label " + n, k.label(5, n), -1);
            Checks.due("label of slot " + n, k.label(n, 0), -1);
        }
    }

    private static void outputs() {
        FlowKernel k = new FlowKernel();
        k.counter(0, 2);
        Checks.spin(k, 1);
        Checks.call(k, 1, Checks.OUTPUT, 70, 0, 0);
        k.tag(1, 0, true);
        k.tag(1, 1, true);
        Checks.call(k, 1, Checks.OUTPUT, -71, 0, 0);
        k.tag(1, 0, false);
        Checks.due("output 0", k.output(1, 0), 70);
        Checks.due("output 1", k.output(1, 1), -71);
        Checks.due("output 2", k.output(1, 2), 0);
        Checks.due("tags of output 0", k.outputTags(1, 0), 0);
        Checks.due("tags of output 1", k.outputTags(1, 1), 2);
        Checks.due("tags of output 2", k.outputTags(1, 2), -1);
        Checks.due("output of slot 8", k.output(8, 0), 0);
        Checks.due("tags of slot 8", k.outputTags(8, 0), -1);
        for (int n : NONE) {
            Checks.due("output " + n, k.output(1, n), 0);
            Checks.due("output of slot " + n, k.output(n, 0), 0);
            Checks.due("tags of output " + n, k.outputTags(1, n), -1);
            Checks.due("tags of slot " + n, k.outputTags(n, 0), -1);
        }
    }

    private static void contents() {
        FlowKernel k = new FlowKernel();
        k.counter(0, 1);
        k.file(63, 0);
        k.fill(63, 0, 5);
        k.fill(63, 7, 6);
        Checks.due("content 0", k.content(63, 0), 5);
        Checks.due("content 7", k.content(63, 7), 6);
        Checks.due("content 8", k.content(63, 8), 0);
        Checks.due("content of none", k.content(62, 0), 0);
        Checks.due("content of 64", k.content(64, 0), 0);
        Checks.due("tags of 63", k.fileTags(63), 1);
        Checks.due("tags of none", k.fileTags(62), -1);
        Checks.due("tags of 64", k.fileTags(64), -1);
        for (int n : NONE) {
            Checks.due("content " + n, k.content(63, n), 0);
            Checks.due("content of file " + n, k.content(n, 0), 0);
            Checks.due("tags of file " + n, k.fileTags(n), -1);
        }
    }

    private static void mayFlow() {
        FlowKernel k = new FlowKernel();
        k.counter(0, 2);
        k.counter(7, 32);
        k.tag(1, 0, true);
        k.tag(2, 0, true);
        k.tag(2, 255, true);
        k.tag(3, 1, true);
        Checks.due("empty to all", k.mayFlow(0, 2), true);
        Checks.due("part to whole", k.mayFlow(1, 2), true);
        Checks.due("whole to part", k.mayFlow(2, 1), false);
        Checks.due("one to another", k.mayFlow(1, 3), false);
        Checks.due("to itself", k.mayFlow(2, 2), true);
        Checks.due("from slot 8", k.mayFlow(8, 0), false);
        Checks.due("to slot 8", k.mayFlow(0, 8), false);
        for (int n : NONE) {
            Checks.due("from slot " + n, k.mayFlow(n, 0), false);
            Checks.due("to slot " + n, k.mayFlow(0, n), false);
        }
    }
}
