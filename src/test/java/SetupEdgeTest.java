import static java.lang.Integer.MAX_VALUE;
import static java.lang.Integer.MIN_VALUE;

/** The boundary cases of promises 1 to 9; a sentence of the document stands above the test that is its own. */
public final class SetupEdgeTest {
    private static final int[] NO_SLOTS = {-1, 8, MIN_VALUE, MAX_VALUE};
    private static final int[] NO_TAGS = {-1, 256, MIN_VALUE, MAX_VALUE};
    private static final int[] NO_FILES = {-1, 64, MIN_VALUE, MAX_VALUE};

    public static void main(String[] args) {
        eightSlots();
        noTurns();
        pokeFirstAndLastCells();
        pokeOfNoSlot();
        pokeOfACellThatIsNotThere();
        pokeLeavesItsNeighbours();
        startOfEachState();
        startOfNoSlot();
        counterFrom0To32();
        counterNotLess();
        counterOfNoSlotOrN();
        counterGivesNoCapabilities();
        counterSaysWhichTagsAreThere();
        tagNumbers();
        tagOfNoSlot();
        tagThatIsNotThere();
        tagThatIsHadAndThatIsNot();
        tagsUpTo16();
        capabilityKinds();
        capabilityOfNoSlot();
        capabilityOfATagThatIsNotThere();
        capabilityThatIsHadAndThatIsNot();
        capabilitiesUpTo40();
        fileNumbers();
        fileOfNoNumber();
        fileIsMadeOnce();
        fileTagsBelow0();
        fileOfATagThatIsNotThere();
        fileTagsUpTo16();
        fillCells();
        fillOfNoCell();
        postOfNoSlot();
        postUpTo8();
        postBehindARoundOfTheQueue();
        postWhateverTheLabels();
        postToEachState();
        Checks.finish();
    }

    // ---- promise 1

    /** "Eight IDLE slots": 0 and 7 are slots, -1 and 8 are none; all that they have is 0 or not there. */
    private static void eightSlots() {
        for (int s = 0; s < 8; s++) {
            FlowKernel k = new FlowKernel();
            for (int what = 0; what <= 10; what++) {
                Checks.due("new slot(" + s + ", " + what + ")", k.slot(s, what), 0);
            }
            for (int place = 0; place < 128; place++) {
                Checks.due("new cell(" + s + ", " + place + ")", k.cell(s, place), 0);
            }
            for (int f = 8 * s; f < 8 * s + 8; f++) {
                Checks.due("new fileTags(" + f + ")", k.fileTags(f), -1);
            }
            Checks.due("new label", k.label(s, 0), -1);
            Checks.due("new outputTags", k.outputTags(s, 0), -1);
            Checks.due("new post", k.post(s, s, 1), 1);
        }
        for (int s : NO_SLOTS) {
            Checks.due("new slot " + s, new FlowKernel().slot(s, 0), -1);
        }
    }

    /** "no turns": the first turn is of slot 0, and objects have nothing in common. */
    private static void noTurns() {
        FlowKernel used = new FlowKernel();
        Scene.busy(used);
        used.run(5);
        FlowKernel k = new FlowKernel();
        Checks.due("new run(0)", k.run(0), 0);
        k.start(0);
        k.start(1);
        k.run(1);
        Checks.due("the first turn is of slot 0", k.slot(0, 0), 2);
        Checks.due("it is not of slot 1", k.slot(1, 0), 1);
        Scene.same("a new object beside a used one", none -> { }, none -> Scene.busy(new FlowKernel()));
    }

    // ---- promise 2

    /** "The cells from a place on become p, q, r. Answers 1." at the first and at the last place. */
    private static void pokeFirstAndLastCells() {
        for (int s : new int[] {0, 7}) {
            for (int place : new int[] {0, 125}) {
                FlowKernel k = new FlowKernel();
                Checks.due("poke of " + s + " at " + place, k.poke(s, place, MIN_VALUE, -1, MAX_VALUE), 1);
                Checks.due("p", k.cell(s, place), MIN_VALUE);
                Checks.due("q", k.cell(s, place + 1), -1);
                Checks.due("r", k.cell(s, place + 2), MAX_VALUE);
            }
        }
    }

    /** "-1, and nothing is done: there is no such slot" */
    private static void pokeOfNoSlot() {
        for (int s : NO_SLOTS) {
            Scene.refused("poke of slot " + s, Scene::busy, k -> k.poke(s, 0, 1, 2, 3), -1);
        }
    }

    /** "or one of the cells is not there": one, two or all three, also where place + 2 would wrap. */
    private static void pokeOfACellThatIsNotThere() {
        int[] places = {-1, -2, -3, 126, 127, 128, MIN_VALUE, MAX_VALUE, MAX_VALUE - 1, MAX_VALUE - 2};
        for (int place : places) {
            Scene.refused("poke at " + place, Scene::busy, k -> k.poke(0, place, 1, 2, 3), -1);
        }
    }

    private static void pokeLeavesItsNeighbours() {
        FlowKernel k = new FlowKernel();
        k.poke(3, 0, 1, 2, 3);
        k.poke(3, 3, 4, 5, 6);
        k.poke(3, 1, 7, 8, 9);
        int[] want = {1, 7, 8, 9, 5, 6, 0};
        for (int place = 0; place < want.length; place++) {
            Checks.due("cell " + place, k.cell(3, place), want[place]);
        }
        Checks.due("the slot before", k.cell(2, 1), 0);
        Checks.due("the slot behind", k.cell(4, 1), 0);
    }

    // ---- promise 3

    /** "An IDLE slot is LIVE. Answers 1. -1: .. it is not IDLE." */
    private static void startOfEachState() {
        FlowKernel k = new FlowKernel();
        Checks.due("start of slot 0", k.start(0), 1);
        Checks.due("start of slot 7", k.start(7), 1);
        Checks.due("slot 0 is LIVE", k.slot(0, 0), 1);
        Checks.due("slot 7 is LIVE", k.slot(7, 0), 1);
        Checks.due("slot 1 is IDLE", k.slot(1, 0), 0);
        Scene.refused("start of a LIVE slot", Scene::busy, s -> s.start(0), -1);
        Scene.refused("start of a HALTED slot", Scene::busy, s -> s.start(4), -1);
        Scene.refused("start of a TRAPPED slot", Scene::busy, s -> s.start(5), -1);
    }

    /** "-1: there is none such" */
    private static void startOfNoSlot() {
        for (int s : NO_SLOTS) {
            Scene.refused("start of slot " + s, Scene::busy, k -> k.start(s), -1);
        }
    }

    // ---- promise 4

    /** "becomes n (0 to 32) .. Answers what it was." */
    private static void counterFrom0To32() {
        for (int s : new int[] {0, 7}) {
            FlowKernel k = new FlowKernel();
            int[] steps = {0, 1, 31, 32};
            int was = 0;
            for (int n : steps) {
                Checks.due("counter " + n, k.counter(s, n), was);
                Checks.due("counter is " + n, k.slot(s, 5), n);
                was = n;
            }
        }
    }

    /** "if that is not less than it was .. -2: n is less" */
    private static void counterNotLess() {
        Scene.refused("counter one less", Scene::busy, k -> k.counter(2, 9), -2);
        Scene.refused("counter the same", Scene::busy, k -> k.counter(2, 10), 10);
        Scene.refused("counter 0", Scene::busy, k -> k.counter(2, 0), -2);
        FlowKernel k = new FlowKernel();
        k.counter(2, 32);
        Checks.due("31 behind 32", k.counter(2, 31), -2);
        Checks.due("32 behind 32", k.counter(2, 32), 32);
        k.counter(3, 9);
        Checks.due("one more", k.counter(3, 10), 9);
    }

    /** "-1: there is no such slot or n", also where n would be less. */
    private static void counterOfNoSlotOrN() {
        for (int n : new int[] {-1, 33, MIN_VALUE, MAX_VALUE}) {
            Scene.refused("counter " + n, Scene::busy, k -> k.counter(0, n), -1);
        }
        for (int s : NO_SLOTS) {
            Scene.refused("counter of slot " + s, Scene::busy, k -> k.counter(s, 32), -1);
            Scene.refused("counter 0 of slot " + s, Scene::busy, k -> k.counter(s, 0), -1);
        }
    }

    /** "it gets no capabilities" */
    private static void counterGivesNoCapabilities() {
        FlowKernel k = new FlowKernel();
        k.counter(6, 32);
        Checks.due("PLUS", k.slot(6, 6), 0);
        Checks.due("MINUS", k.slot(6, 7), 0);
        Checks.due("tags", k.slot(6, 4), 0);
    }

    /** "A TAG is .. THERE if that is below this slot's COUNTER": counter - 1 is, counter is not. */
    private static void counterSaysWhichTagsAreThere() {
        for (int s = 0; s < 8; s++) {
            for (int n : new int[] {0, 1, 31, 32}) {
                FlowKernel k = new FlowKernel();
                k.counter(s, n);
                int last = 32 * s + n - 1;
                Checks.due("tag " + last + " of counter " + n, k.tag(1, last, true), n == 0 ? -1 : 1);
                Checks.due("tag " + (last + 1) + " of counter " + n, k.tag(2, last + 1, true), -1);
                Checks.due("PLUS " + last, k.capability(1, 0, last, true), n == 0 ? -1 : 1);
                Checks.due("PLUS " + (last + 1), k.capability(1, 0, last + 1, true), -1);
                Checks.due("file " + (last + 1), k.file(9, last + 1), -1);
            }
        }
    }

    // ---- promise 5

    private static void tagNumbers() {
        FlowKernel k = new FlowKernel();
        k.counter(0, 32);
        k.counter(7, 32);
        int had = 0;
        for (int t : new int[] {0, 31, 224, 255}) {
            Checks.due("tag " + t + " of slot 0", k.tag(0, t, true), ++had);
            Checks.due("tag " + t + " of slot 7", k.tag(7, t, true), had);
            Checks.due("it is the last", k.label(0, had - 1), t);
        }
    }

    /** "-1: there is no such slot" */
    private static void tagOfNoSlot() {
        for (int s : NO_SLOTS) {
            Scene.refused("tag on of slot " + s, Scene::busy, k -> k.tag(s, 0, true), -1);
            Scene.refused("tag off of slot " + s, Scene::busy, k -> k.tag(s, 0, false), -1);
        }
    }

    /** "-1: .. the tag is not THERE", on or off. */
    private static void tagThatIsNotThere() {
        for (int t : NO_TAGS) {
            Scene.refused("tag " + t + " on", Scene::busy, k -> k.tag(0, t, true), -1);
            Scene.refused("tag " + t + " off", Scene::busy, k -> k.tag(0, t, false), -1);
        }
        for (int t : new int[] {8, 31, 32 + 9, 224 + 15, 255}) {
            Scene.refused("tag " + t + " on", Scene::busy, k -> k.tag(0, t, true), -1);
            Scene.refused("tag " + t + " off", Scene::busy, k -> k.tag(0, t, false), -1);
        }
    }

    /** "gets a tag (on), or has it no more": one that it has comes again, one that it has not goes. */
    private static void tagThatIsHadAndThatIsNot() {
        Scene.refused("tag on that it has", Scene::busy, k -> k.tag(3, 3, true), 1);
        Scene.refused("tag off that it has not", Scene::busy, k -> k.tag(3, 2, false), 1);
        FlowKernel k = new FlowKernel();
        k.counter(0, 1);
        Checks.due("off of none", k.tag(3, 0, false), 0);
        Checks.due("the first", k.tag(3, 0, true), 1);
        Checks.due("the last goes", k.tag(3, 0, false), 0);
        Checks.due("none is left", k.label(3, 0), -1);
    }

    private static void sixteenTags(FlowKernel k) {
        k.counter(0, 32);
        for (int t = 0; t < 16; t++) {
            Checks.due("tag " + 2 * t, k.tag(0, 2 * t, true), t + 1);
        }
    }

    /** "or it would have 17" */
    private static void tagsUpTo16() {
        Scene.refused("a 17th tag", SetupEdgeTest::sixteenTags, k -> k.tag(0, 31, true), -1);
        Scene.refused("the 16th again", SetupEdgeTest::sixteenTags, k -> k.tag(0, 30, true), 16);
        Scene.refused("a 17th off", SetupEdgeTest::sixteenTags, k -> k.tag(0, 31, false), 16);
        FlowKernel k = new FlowKernel();
        sixteenTags(k);
        Checks.due("another slot has room", k.tag(1, 31, true), 1);
        Checks.due("one goes", k.tag(0, 0, false), 15);
        Checks.due("a 16th comes", k.tag(0, 31, true), 16);
        Checks.due("the first one is gone", k.tag(0, 0, true), -1);
    }

    // ---- promise 6

    /** "kind 0 PLUS, 1 MINUS .. -1: there is no such .. kind" */
    private static void capabilityKinds() {
        for (int kind : new int[] {-1, 2, MIN_VALUE, MAX_VALUE}) {
            Scene.refused("kind " + kind + " on", Scene::busy, k -> k.capability(0, kind, 1, true), -1);
            Scene.refused("kind " + kind + " off", Scene::busy, k -> k.capability(0, kind, 0, false), -1);
        }
        FlowKernel k = new FlowKernel();
        k.counter(7, 32);
        Checks.due("PLUS", k.capability(7, 0, 255, true), 1);
        Checks.due("no MINUS by it", k.slot(7, 7), 0);
        Checks.due("MINUS", k.capability(7, 1, 224, true), 1);
        Checks.due("no PLUS by it", k.slot(7, 6), 1);
        Checks.due("MINUS of 255 is not there", k.capability(7, 1, 255, false), 1);
        Checks.due("PLUS of 255 is", k.capability(7, 0, 255, false), 0);
    }

    /** "-1: there is no such slot" */
    private static void capabilityOfNoSlot() {
        for (int s : NO_SLOTS) {
            Scene.refused("PLUS of slot " + s, Scene::busy, k -> k.capability(s, 0, 0, true), -1);
            Scene.refused("MINUS off of slot " + s, Scene::busy, k -> k.capability(s, 1, 0, false), -1);
        }
    }

    /** "the tag is not THERE" */
    private static void capabilityOfATagThatIsNotThere() {
        for (int t : new int[] {-1, 256, MIN_VALUE, MAX_VALUE, 8, 255}) {
            Scene.refused("PLUS of " + t, Scene::busy, k -> k.capability(0, 0, t, true), -1);
            Scene.refused("MINUS of " + t, Scene::busy, k -> k.capability(0, 1, t, true), -1);
            Scene.refused("PLUS of " + t + " off", Scene::busy, k -> k.capability(0, 0, t, false), -1);
        }
    }

    private static void capabilityThatIsHadAndThatIsNot() {
        Scene.refused("PLUS that it has", Scene::busy, k -> k.capability(2, 0, 64, true), 1);
        Scene.refused("MINUS that it has", Scene::busy, k -> k.capability(2, 1, 65, true), 2);
        Scene.refused("PLUS off that it has not", Scene::busy, k -> k.capability(2, 0, 65, false), 1);
        Scene.refused("MINUS off that it has not", Scene::busy, k -> k.capability(2, 1, 64, false), 2);
        FlowKernel k = new FlowKernel();
        k.counter(0, 1);
        Checks.due("off of none", k.capability(0, 0, 0, false), 0);
    }

    private static void fortyOf(FlowKernel k, int kind) {
        k.counter(0, 32);
        k.counter(7, 32);
        for (int n = 1; n <= 40; n++) {
            int tag = n <= 32 ? n - 1 : 256 - (n - 32);
            Checks.due("capability " + n, k.capability(0, kind, tag, true), n);
        }
    }

    /** "or it would have 41": each kind has its own 40. */
    private static void capabilitiesUpTo40() {
        for (int kind = 0; kind < 2; kind++) {
            int one = kind;
            Scene.refused("a 41st", k -> fortyOf(k, one), k -> k.capability(0, one, 224, true), -1);
            Scene.refused("the 40th again", k -> fortyOf(k, one), k -> k.capability(0, one, 248, true), 40);
            Scene.refused("a 41st off", k -> fortyOf(k, one), k -> k.capability(0, one, 224, false), 40);
            FlowKernel k = new FlowKernel();
            fortyOf(k, one);
            Checks.due("the other kind has room", k.capability(0, 1 - one, 224, true), 1);
            Checks.due("another slot has room", k.capability(1, one, 224, true), 1);
            Checks.due("one goes", k.capability(0, one, 0, false), 39);
            Checks.due("a 40th comes", k.capability(0, one, 224, true), 40);
            Checks.due("no more", k.capability(0, one, 0, true), -1);
        }
    }

    // ---- promise 7

    /** "File k of a slot (8 times the slot and 0 to 7)" */
    private static void fileNumbers() {
        for (int f : new int[] {0, 7, 8, 55, 56, 63}) {
            FlowKernel k = new FlowKernel();
            Checks.due("file " + f, k.file(f, -1), 0);
            for (int other = 0; other < 64; other++) {
                Checks.due("file " + f + ": fileTags(" + other + ")", k.fileTags(other), other == f ? 0 : -1);
            }
            for (int s = 0; s < 8; s++) {
                Checks.due("file " + f + ": files of " + s, k.slot(s, 9), s == f / 8 ? 1 : 0);
            }
        }
        FlowKernel all = new FlowKernel();
        for (int f = 16; f < 24; f++) {
            all.file(f, -1);
            Checks.due("files of slot 2", all.slot(2, 9), f - 15);
        }
        Checks.due("no more than 8", all.file(16, -1), 0);
        Checks.due("8 files", all.slot(2, 9), 8);
    }

    /** "-1: there is no such file" */
    private static void fileOfNoNumber() {
        for (int f : NO_FILES) {
            Scene.refused("file " + f, Scene::busy, k -> k.file(f, -1), -1);
            Scene.refused("file " + f + " with a tag", Scene::busy, k -> k.file(f, 0), -1);
        }
    }

    /** "it is made with no tags, if it is not there": one that is there keeps its tags and its cells. */
    private static void fileIsMadeOnce() {
        Scene.refused("a file that is there", Scene::busy, k -> k.file(9, -1), 1);
        Scene.refused("a tag that it has", Scene::busy, k -> k.file(9, 1), 1);
        FlowKernel k = new FlowKernel();
        Checks.due("fill ahead of it", k.fill(40, 3, 9), 0);
        Checks.due("made", k.file(40, -1), 0);
        for (int i = 0; i < 8; i++) {
            Checks.due("cell " + i, k.content(40, i), 0);
        }
    }

    /** "its label gets a tag (0 or above; below 0: none)" */
    private static void fileTagsBelow0() {
        FlowKernel k = new FlowKernel();
        k.counter(0, 32);
        k.counter(7, 32);
        Checks.due("made by -1", k.file(1, -1), 0);
        Checks.due("made by the least", k.file(2, MIN_VALUE), 0);
        Checks.due("made by 0", k.file(3, 0), 1);
        Checks.due("made by 255", k.file(4, 255), 1);
        Checks.due("-1 again", k.file(3, -1), 1);
        Checks.due("the least again", k.file(3, MIN_VALUE), 1);
    }

    /** "a tag from 0 on is not THERE": no file is made by it, and one that is there gets nothing. */
    private static void fileOfATagThatIsNotThere() {
        for (int t : new int[] {8, 31, 255, 256, MAX_VALUE}) {
            Scene.refused("no file, tag " + t, Scene::busy, k -> k.file(10, t), -1);
            Scene.refused("a file, tag " + t, Scene::busy, k -> k.file(9, t), -1);
        }
    }

    private static void fileOf16(FlowKernel k) {
        k.counter(7, 32);
        for (int t = 0; t < 16; t++) {
            Checks.due("file tag " + t, k.file(63, 224 + t), t + 1);
        }
        k.fill(63, 0, 5);
    }

    /** "or it would have 17" */
    private static void fileTagsUpTo16() {
        Scene.refused("a 17th", SetupEdgeTest::fileOf16, k -> k.file(63, 255), -1);
        Scene.refused("the 16th again", SetupEdgeTest::fileOf16, k -> k.file(63, 239), 16);
        Scene.refused("none at 16", SetupEdgeTest::fileOf16, k -> k.file(63, -1), 16);
    }

    // ---- promise 8

    /** "Cell i of a file becomes v. Answers what it was" */
    private static void fillCells() {
        FlowKernel k = new FlowKernel();
        for (int f : new int[] {0, 63}) {
            k.file(f, -1);
            for (int i : new int[] {0, 7}) {
                Checks.due("fill at first", k.fill(f, i, MIN_VALUE + i), 0);
                Checks.due("fill again", k.fill(f, i, MAX_VALUE - i), MIN_VALUE + i);
                Checks.due("filled", k.content(f, i), MAX_VALUE - i);
            }
            Checks.due("cell 1 stays", k.content(f, 1), 0);
            Checks.due("cell 6 stays", k.content(f, 6), 0);
        }
    }

    /** "0 if there is none such": no file number, a file that is not there, no cell. */
    private static void fillOfNoCell() {
        for (int i : new int[] {-1, 8, MIN_VALUE, MAX_VALUE}) {
            Scene.refused("fill cell " + i, Scene::busy, k -> k.fill(9, i, 5), 0);
        }
        for (int f : new int[] {-1, 64, MIN_VALUE, MAX_VALUE, 8, 10, 1}) {
            Scene.refused("fill file " + f, Scene::busy, k -> k.fill(f, 0, 5), 0);
            Scene.refused("fill the last of file " + f, Scene::busy, k -> k.fill(f, 7, 5), 0);
        }
        Scene.same("a file made behind a fill", k -> k.file(10, -1), k -> {
            k.fill(10, 0, 5);
            k.file(10, -1);
        });
    }

    // ---- promise 9

    /** "-1: there is no such slot" */
    private static void postOfNoSlot() {
        for (int s : NO_SLOTS) {
            Scene.refused("post from " + s, Scene::busy, k -> k.post(s, 0, 5), -1);
            Scene.refused("post to " + s, Scene::busy, k -> k.post(0, s, 5), -1);
            Scene.refused("post from and to " + s, Scene::busy, k -> k.post(s, s, 5), -1);
        }
    }

    private static void eightWait(FlowKernel k) {
        for (int n = 1; n <= 8; n++) {
            Checks.due("post " + n, k.post(n % 8, 7, n == 1 ? MIN_VALUE : MAX_VALUE - n), n);
        }
    }

    /** "Answers how many messages wait there. -1: .. or 8 wait." */
    private static void postUpTo8() {
        Scene.refused("a 9th message", SetupEdgeTest::eightWait, k -> k.post(0, 7, 5), -1);
        Scene.refused("a 9th message of its own", SetupEdgeTest::eightWait, k -> k.post(7, 7, 5), -1);
        FlowKernel k = new FlowKernel();
        eightWait(k);
        Checks.due("another queue has room", k.post(7, 0, 5), 1);
        Checks.spin(k, 7);
        for (int n = 1; n <= 8; n++) {
            Checks.due("message " + n, Checks.call(k, 7, Checks.RECEIVE, 0, 0, 0), 1);
            Checks.due("its value", k.cell(7, 120), n == 1 ? MIN_VALUE : MAX_VALUE - n);
            Checks.due("its sender", k.cell(7, 121), n % 8);
            Checks.due("they wait", k.slot(7, 8), 8 - n);
        }
        Checks.due("none waits", Checks.call(k, 7, Checks.RECEIVE, 0, 0, 0), 0);
    }

    /** "comes to the end of another one's queue", again and again where a place at its front became free. */
    private static void postBehindARoundOfTheQueue() {
        FlowKernel k = new FlowKernel();
        for (int n = 0; n < 8; n++) {
            k.post(0, 7, n);
        }
        Checks.spin(k, 7);
        for (int n = 0; n < 20; n++) {
            Checks.due("message " + n, Checks.call(k, 7, Checks.RECEIVE, 0, 0, 0), 1);
            Checks.due("its value", k.cell(7, 120), n);
            Checks.due("room for one", k.post(0, 7, n + 8), 8);
            Checks.due("and no more", k.post(0, 7, -1), -1);
        }
    }

    /** "with that one's label (from) and a value, whatever the labels are" */
    private static void postWhateverTheLabels() {
        FlowKernel k = new FlowKernel();
        sixteenTags(k);
        Checks.due("from 16 tags to none", k.post(0, 1, 5), 1);
        Checks.due("from none to 16 tags", k.post(1, 0, 6), 1);
        Checks.due("to itself", k.post(0, 0, 7), 2);
        for (int t = 0; t < 15; t++) {
            k.tag(1, 2 * t, true);
        }
        k.post(0, 1, 8);
        k.tag(1, 30, true);
        Checks.spin(k, 1);
        Checks.due("with all 16 it is received", Checks.call(k, 1, Checks.RECEIVE, 0, 0, 0), 1);
        Checks.due("the first", k.cell(1, 120), 5);
        k.tag(1, 30, false);
        Checks.due("with 15 of 16 it is not", Checks.call(k, 1, Checks.RECEIVE, 0, 0, 0), 0);
        Checks.due("it is gone", k.slot(1, 8), 0);
    }

    private static void postToEachState() {
        FlowKernel k = new FlowKernel();
        Scene.busy(k);
        for (int s = 0; s < 8; s++) {
            Checks.due("post to slot " + s + ", state " + k.slot(s, 0), k.post(0, s, 5), 3);
        }
    }
}
