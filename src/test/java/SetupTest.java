/** Promises 1 to 9: a new object, and the calls that set what is there. */
public final class SetupTest {
    private static final int[] NO_SLOTS = {-1, 8, Integer.MIN_VALUE, Integer.MAX_VALUE};

    public static void main(String[] args) {
        newObject();
        poke();
        start();
        counter();
        tag();
        tagsAtMost16();
        capability();
        capabilitiesAtMost40();
        file();
        fileTagsAtMost16();
        fill();
        post();
        postKeepsTheLabelOfThen();
        Checks.finish();
    }

    private static void newObject() {
        for (int s = 0; s < 8; s++) {
            FlowKernel k = new FlowKernel();
            for (int what = 0; what <= 10; what++) {
                Checks.due("new: slot(" + s + ", " + what + ")", k.slot(s, what), 0);
            }
            for (int place = 0; place < 128; place++) {
                Checks.due("new: cell(" + s + ", " + place + ")", k.cell(s, place), 0);
            }
            Checks.due("new: label", k.label(s, 0), -1);
            Checks.due("new: outputTags", k.outputTags(s, 0), -1);
            Checks.due("new: mayFlow", k.mayFlow(s, 7 - s), true);
        }
        FlowKernel k = new FlowKernel();
        for (int f = 0; f < 64; f++) {
            Checks.due("new: fileTags(" + f + ")", k.fileTags(f), -1);
        }
        Checks.due("new: run(0)", k.run(0), 0);
    }

    private static void poke() {
        FlowKernel k = new FlowKernel();
        Checks.due("poke", k.poke(7, 125, 1, -2, Integer.MIN_VALUE), 1);
        Checks.due("poke p", k.cell(7, 125), 1);
        Checks.due("poke q", k.cell(7, 126), -2);
        Checks.due("poke r", k.cell(7, 127), Integer.MIN_VALUE);
        Checks.due("poke of another slot", k.cell(6, 125), 0);
        for (int place : new int[] {-1, -3, 126, 127, 128, Integer.MAX_VALUE, Integer.MIN_VALUE}) {
            Checks.due("poke at " + place, k.poke(7, place, 9, 9, 9), -1);
        }
        Checks.due("poke refused leaves 126", k.cell(7, 126), -2);
        Checks.due("poke refused leaves 0", k.cell(7, 0), 0);
        for (int s : NO_SLOTS) {
            Checks.due("poke of slot " + s, k.poke(s, 0, 1, 1, 1), -1);
        }
        Checks.spin(k, 0);
        Checks.due("poke of a LIVE slot", k.poke(0, 5, 1, 2, 3), 1);
        Checks.due("poke of a LIVE slot sets", k.cell(0, 7), 3);
    }

    private static void start() {
        FlowKernel k = new FlowKernel();
        Checks.due("start", k.start(7), 1);
        Checks.due("started is LIVE", k.slot(7, 0), 1);
        Checks.due("start twice", k.start(7), -1);
        k.run(8);
        Checks.due("ran a 0", k.slot(7, 0), 2);
        Checks.due("start when HALTED", k.start(7), -1);
        Checks.due("still HALTED", k.slot(7, 0), 2);
        k.poke(6, 0, 31, 0, 0);
        k.start(6);
        k.run(8);
        Checks.due("TRAPPED", k.slot(6, 0), 3);
        Checks.due("start when TRAPPED", k.start(6), -1);
        for (int s : NO_SLOTS) {
            Checks.due("start of slot " + s, k.start(s), -1);
        }
    }

    private static void counter() {
        FlowKernel k = new FlowKernel();
        Checks.due("counter to 0", k.counter(1, 0), 0);
        Checks.due("counter to 5", k.counter(1, 5), 0);
        Checks.due("counter to 5 again", k.counter(1, 5), 5);
        Checks.due("counter to 4", k.counter(1, 4), -2);
        Checks.due("counter stays", k.slot(1, 5), 5);
        Checks.due("counter to 32", k.counter(1, 32), 5);
        Checks.due("counter to 33", k.counter(1, 33), -1);
        Checks.due("counter to -1", k.counter(1, -1), -1);
        Checks.due("counter was 32", k.counter(1, 32), 32);
        Checks.due("no PLUS by counter", k.slot(1, 6), 0);
        Checks.due("no MINUS by counter", k.slot(1, 7), 0);
        Checks.due("another counter", k.slot(0, 5), 0);
        for (int s : NO_SLOTS) {
            Checks.due("counter of slot " + s, k.counter(s, 1), -1);
        }
    }

    private static void tag() {
        FlowKernel k = new FlowKernel();
        k.counter(7, 32);
        k.counter(2, 1);
        Checks.due("tag 255", k.tag(0, 255, true), 1);
        Checks.due("tag 255 twice", k.tag(0, 255, true), 1);
        Checks.due("tag 64", k.tag(0, 64, true), 2);
        Checks.due("tag 65 is not THERE", k.tag(0, 65, true), -1);
        Checks.due("tag 65 off is not THERE", k.tag(0, 65, false), -1);
        Checks.due("tag 256", k.tag(0, 256, true), -1);
        Checks.due("tag -1", k.tag(0, -1, true), -1);
        Checks.due("tag MIN", k.tag(0, Integer.MIN_VALUE, false), -1);
        Checks.due("tag of slot 1 is not THERE", k.tag(0, 32, true), -1);
        Checks.due("two tags", k.slot(0, 4), 2);
        Checks.due("tag off that it has not", k.tag(0, 254, false), 2);
        Checks.due("tag off", k.tag(0, 255, false), 1);
        Checks.due("the other stays", k.label(0, 0), 64);
        for (int s : NO_SLOTS) {
            Checks.due("tag of slot " + s, k.tag(s, 64, true), -1);
        }
    }

    private static void tagsAtMost16() {
        FlowKernel k = new FlowKernel();
        k.counter(0, 32);
        for (int t = 0; t < 16; t++) {
            Checks.due("tag " + t, k.tag(3, 2 * t, true), t + 1);
        }
        Checks.due("a 17th tag", k.tag(3, 31, true), -1);
        Checks.due("one of the 16 again", k.tag(3, 30, true), 16);
        Checks.due("a 17th that goes", k.tag(3, 31, false), 16);
        Checks.due("one goes", k.tag(3, 0, false), 15);
        Checks.due("now there is room", k.tag(3, 31, true), 16);
        Checks.due("the last one", k.label(3, 15), 31);
        Checks.due("the first one", k.label(3, 0), 2);
    }

    private static void capability() {
        FlowKernel k = new FlowKernel();
        k.counter(7, 32);
        Checks.due("PLUS", k.capability(1, 0, 224, true), 1);
        Checks.due("PLUS twice", k.capability(1, 0, 224, true), 1);
        Checks.due("PLUS 255", k.capability(1, 0, 255, true), 2);
        Checks.due("MINUS", k.capability(1, 1, 255, true), 1);
        Checks.due("MINUS off that it has not", k.capability(1, 1, 224, false), 1);
        Checks.due("PLUS off", k.capability(1, 0, 255, false), 1);
        Checks.due("PLUS seen", k.slot(1, 6), 1);
        Checks.due("MINUS seen", k.slot(1, 7), 1);
        Checks.due("kind 2", k.capability(1, 2, 224, true), -1);
        Checks.due("kind -1", k.capability(1, -1, 224, true), -1);
        Checks.due("not THERE", k.capability(1, 0, 0, true), -1);
        Checks.due("not THERE off", k.capability(1, 0, 0, false), -1);
        Checks.due("256", k.capability(1, 0, 256, true), -1);
        Checks.due("-1", k.capability(1, 0, -1, true), -1);
        for (int s : NO_SLOTS) {
            Checks.due("capability of slot " + s, k.capability(s, 0, 224, true), -1);
        }
    }

    private static void capabilitiesAtMost40() {
        FlowKernel k = new FlowKernel();
        k.counter(0, 32);
        k.counter(1, 32);
        for (int t = 0; t < 40; t++) {
            Checks.due("MINUS " + t, k.capability(5, 1, t, true), t + 1);
        }
        Checks.due("a 41st MINUS", k.capability(5, 1, 40, true), -1);
        Checks.due("one of the 40", k.capability(5, 1, 39, true), 40);
        Checks.due("off that it has not", k.capability(5, 1, 40, false), 40);
        Checks.due("PLUS has room", k.capability(5, 0, 40, true), 1);
    }

    private static void file() {
        FlowKernel k = new FlowKernel();
        Checks.due("tag 0 is not THERE", k.file(0, 0), -1);
        Checks.due("file 0 was not made", k.fileTags(0), -1);
        Checks.due("file 0", k.file(0, -1), 0);
        Checks.due("file 0 is there", k.fileTags(0), 0);
        k.counter(0, 2);
        Checks.due("file 63", k.file(63, -1), 0);
        Checks.due("file is of slot 7", k.slot(7, 9), 1);
        Checks.due("file 63 gets 1", k.file(63, 1), 1);
        Checks.due("file 63 gets 1 again", k.file(63, 1), 1);
        Checks.due("file 63 gets 0", k.file(63, 0), 2);
        Checks.due("file 63 gets none", k.file(63, Integer.MIN_VALUE), 2);
        Checks.due("made with a tag", k.file(8, 0), 1);
        Checks.due("tag not THERE", k.file(9, 2), -1);
        Checks.due("nothing was made", k.fileTags(9), -1);
        Checks.due("tag 256", k.file(9, 256), -1);
        Checks.due("tag MAX", k.file(9, Integer.MAX_VALUE), -1);
        Checks.due("file 64", k.file(64, -1), -1);
        Checks.due("file -1", k.file(-1, -1), -1);
        Checks.due("one file of slot 1", k.slot(1, 9), 1);
        k.fill(63, 0, 5);
        k.file(63, -1);
        Checks.due("a file that is there is not made anew", k.content(63, 0), 5);
    }

    private static void fileTagsAtMost16() {
        FlowKernel k = new FlowKernel();
        k.counter(4, 32);
        for (int t = 0; t < 16; t++) {
            Checks.due("file tag " + t, k.file(20, 128 + t), t + 1);
        }
        Checks.due("a 17th", k.file(20, 150), -1);
        Checks.due("one of the 16", k.file(20, 128), 16);
        Checks.due("none", k.file(20, -5), 16);
        Checks.due("still 16", k.fileTags(20), 16);
    }

    private static void fill() {
        FlowKernel k = new FlowKernel();
        Checks.due("fill of a file that is not there", k.fill(5, 0, 7), 0);
        k.file(5, -1);
        Checks.due("it left nothing", k.content(5, 0), 0);
        Checks.due("fill", k.fill(5, 7, 70), 0);
        Checks.due("fill again", k.fill(5, 7, -71), 70);
        Checks.due("filled", k.content(5, 7), -71);
        for (int i : new int[] {-1, 8, Integer.MIN_VALUE, Integer.MAX_VALUE}) {
            Checks.due("fill cell " + i, k.fill(5, i, 1), 0);
        }
        for (int f : new int[] {-1, 64, Integer.MIN_VALUE, Integer.MAX_VALUE}) {
            Checks.due("fill file " + f, k.fill(f, 0, 1), 0);
        }
    }

    private static void post() {
        FlowKernel k = new FlowKernel();
        k.counter(0, 1);
        k.tag(1, 0, true);
        for (int i = 1; i <= 8; i++) {
            Checks.due("post " + i, k.post(1, 2, i), i);
        }
        Checks.due("a 9th", k.post(1, 2, 9), -1);
        Checks.due("8 wait", k.slot(2, 8), 8);
        Checks.due("to itself", k.post(1, 1, 5), 1);
        for (int s : NO_SLOTS) {
            Checks.due("post from " + s, k.post(s, 3, 1), -1);
            Checks.due("post to " + s, k.post(3, s, 1), -1);
        }
        k.tag(2, 0, true);
        Checks.spin(k, 2);
        for (int i = 1; i <= 8; i++) {
            Checks.due("received " + i, Checks.call(k, 2, Checks.RECEIVE, 0, 0, 0), 1);
            Checks.due("in order " + i, k.cell(2, 120), i);
            Checks.due("from " + i, k.cell(2, 121), 1);
        }
        Checks.due("none is left", Checks.call(k, 2, Checks.RECEIVE, 0, 0, 0), 0);
    }

    private static void postKeepsTheLabelOfThen() {
        FlowKernel k = new FlowKernel();
        k.counter(0, 1);
        k.post(1, 2, 10);
        k.tag(1, 0, true);
        k.post(1, 2, 11);
        k.tag(1, 0, false);
        k.post(1, 2, 12);
        Checks.spin(k, 2);
        Checks.due("without the tag", Checks.call(k, 2, Checks.RECEIVE, 0, 0, 0), 1);
        Checks.due("the first", k.cell(2, 120), 10);
        Checks.due("the next", Checks.call(k, 2, Checks.RECEIVE, 0, 0, 0), 1);
        Checks.due("the second was dropped", k.cell(2, 120), 12);
        Checks.due("nothing waits", k.slot(2, 8), 0);
    }
}
