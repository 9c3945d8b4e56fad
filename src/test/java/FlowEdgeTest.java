import static java.lang.Integer.MAX_VALUE;
import static java.lang.Integer.MIN_VALUE;

import java.util.function.Consumer;

/** The boundary cases of the system calls SEND, PASS, RECEIVE, READ, WRITE, SPAWN and OUTPUT (promise 10). */
public final class FlowEdgeTest {
    private static final int[] NO_SLOTS = {-1, 8, MIN_VALUE, MAX_VALUE};

    public static void main(String[] args) {
        sendToEachSlot();
        sendToNoSlot();
        sendIntoAFullQueue();
        sendToALabelWithoutL();
        sendKeepsTheLabelOfThen();
        passOfEachKind();
        passOfWhatItHasNot();
        passToNoSlot();
        passIntoAFullQueue();
        passToALabelWithoutL();
        passIsKeptAndHadWhenReceived();
        receiveOfNothing();
        receiveDropsAtTheFront();
        receiveDropsAll();
        receiveDropsACapability();
        receiveOfACapabilityUpTo40();
        receiveOfACapabilityThatItHas();
        receiveOfAValueThatIsNoCapability();
        readOfEachCell();
        readOfNoCell();
        readOfALabelThatIsNotInL();
        writeOfEachCell();
        writeOfNoCell();
        writeToALabelWithoutL();
        spawnByTheParentAlone();
        spawnOfASlotThatIsNotIdle();
        spawnOfALabelThatIsNotInL();
        spawnOfCellsThatAreThere();
        spawnOfCellsThatAreNot();
        spawnDoesNoMore();
        outputUpTo64();
        outputOfEachValue();
        Checks.finish();
    }

    /** The tags 0 to n - 1 are in the slot's label. */
    private static void label(FlowKernel k, int slot, int n) {
        k.counter(0, 32);
        for (int t = 0; t < n; t++) {
            k.tag(slot, t, true);
        }
    }

    /** Slot 1 spins, with the tags 0 to own - 1, and slot 2 has the tags 0 to other - 1. */
    private static FlowKernel labelled(int own, int other) {
        FlowKernel k = new FlowKernel();
        label(k, 1, own);
        label(k, 2, other);
        Checks.spin(k, 1);
        return k;
    }

    private static void fill(FlowKernel k, int slot, int n) {
        for (int i = 0; i < n; i++) {
            k.post(3, slot, 900 + i);
        }
    }

    // ---- 3 SEND

    /** "a message (L, the value b) goes to slot a: 1": the first and the last slot, itself, and each state. */
    private static void sendToEachSlot() {
        for (int to = 0; to < 8; to++) {
            for (int value : new int[] {MIN_VALUE, 0, MAX_VALUE}) {
                FlowKernel k = new FlowKernel();
                Checks.spin(k, 2);
                Checks.due("SEND to " + to, Checks.call(k, 2, Checks.SEND, to, value, 1), 1);
                Checks.due("it waits", k.slot(to, 8), 1);
                if (to != 2) {
                    Checks.spin(k, to);
                }
                Checks.due("RECEIVE", Checks.call(k, to, Checks.RECEIVE, 5, 5, 5), 1);
                Checks.due("its value", k.cell(to, 120), value);
                Checks.due("its sender", k.cell(to, 121), 2);
                Checks.due("cell 122 stays", k.cell(to, 122), 5);
            }
        }
        FlowKernel k = new FlowKernel();
        Scene.busy(k);
        k.tag(0, 0, false);
        for (int to = 0; to < 8; to++) {
            Checks.call(k, 0, Checks.SEND, to, 5, 0);
            Checks.due("three wait, state " + k.slot(to, 0), k.slot(to, 8), 3);
        }
    }

    /** "It goes nowhere, if there is no slot a." */
    private static void sendToNoSlot() {
        for (int to : NO_SLOTS) {
            Scene.answersAlone("SEND to " + to, Scene.with(Scene::busy, 0, to, 5, 0), 0, Checks.SEND, 1);
        }
    }

    /** "and the queue has room; else it is gone": 7 wait, and 8 wait. */
    private static void sendIntoAFullQueue() {
        Consumer<FlowKernel> full = k -> {
            fill(k, 2, 8);
            Checks.spin(k, 1);
        };
        Scene.answersAlone("SEND with 8", Scene.with(full, 1, 2, 5, 0), 1, Checks.SEND, 1);
        FlowKernel k = new FlowKernel();
        fill(k, 2, 7);
        Checks.spin(k, 1);
        Checks.due("SEND with 7", Checks.call(k, 1, Checks.SEND, 2, 5, 0), 1);
        Checks.due("8 wait", k.slot(2, 8), 8);
        Checks.due("SEND with 8", Checks.call(k, 1, Checks.SEND, 2, 6, 0), 1);
        Checks.due("8 wait still", k.slot(2, 8), 8);
        Checks.spin(k, 2);
        for (int i = 0; i < 8; i++) {
            Checks.due("RECEIVE " + i, Checks.call(k, 2, Checks.RECEIVE, 0, 0, 0), 1);
            Checks.due("its value", k.cell(2, 120), i < 7 ? 900 + i : 5);
        }
        Checks.due("no more", Checks.call(k, 2, Checks.RECEIVE, 0, 0, 0), 0);
    }

    /** "A message comes into a queue, if that slot's label has L in it": all of L, no less. */
    private static void sendToALabelWithoutL() {
        int[][] rows = {{0, 0, 1}, {0, 16, 1}, {1, 1, 1}, {16, 16, 1}, {15, 16, 1}, {1, 0, 0}, {16, 15, 0}, {16, 0, 0}};
        for (int[] row : rows) {
            FlowKernel k = labelled(row[0], row[1]);
            Checks.due("SEND " + row[0] + " to " + row[1], Checks.call(k, 1, Checks.SEND, 2, 5, 0), 1);
            Checks.due("it waits", k.slot(2, 8), row[2]);
        }
        Consumer<FlowKernel> fewer = k -> {
            label(k, 1, 16);
            label(k, 2, 15);
            fill(k, 2, 3);
            Checks.spin(k, 1);
        };
        Scene.answersAlone("SEND of 16 to 15", Scene.with(fewer, 1, 2, 5, 0), 1, Checks.SEND, 1);
    }

    /** A message has the label that the sender had when it was sent. */
    private static void sendKeepsTheLabelOfThen() {
        FlowKernel k = labelled(1, 1);
        Checks.call(k, 1, Checks.SEND, 2, 5, 0);
        k.tag(1, 0, false);
        Checks.call(k, 1, Checks.SEND, 2, 6, 0);
        k.tag(1, 1, true);
        k.tag(2, 0, false);
        Checks.spin(k, 2);
        Checks.due("RECEIVE", Checks.call(k, 2, Checks.RECEIVE, 0, 0, 0), 1);
        Checks.due("the one without a tag", k.cell(2, 120), 6);
    }

    // ---- 4 PASS

    private static void passing(FlowKernel k, int tag, int kind) {
        k.counter(0, 32);
        k.counter(7, 32);
        k.capability(1, kind, tag, true);
        Checks.spin(k, 1);
    }

    /** "with the capability (c: 0 PLUS, else MINUS) of tag b, if the slot has that: 1" */
    private static void passOfEachKind() {
        for (int tag : new int[] {0, 255}) {
            for (int c : new int[] {0, 1, -1, 2, MIN_VALUE, MAX_VALUE}) {
                int kind = c == 0 ? 0 : 1;
                FlowKernel k = new FlowKernel();
                passing(k, tag, kind);
                Checks.due("PASS " + tag + " by " + c, Checks.call(k, 1, Checks.PASS, 7, tag, c), 1);
                Checks.due("it waits", k.slot(7, 8), 1);
                Checks.spin(k, 7);
                Checks.due("RECEIVE", Checks.call(k, 7, Checks.RECEIVE, 5, 5, 5), 2);
                Checks.due("its tag", k.cell(7, 120), tag);
                Checks.due("its sender", k.cell(7, 121), 1);
                Checks.due("it has it", k.slot(7, 6 + kind), 1);
                Checks.due("and not the other", k.slot(7, 7 - kind), 0);
                Checks.due("of that tag", k.capability(7, kind, tag, false), 0);
            }
        }
    }

    /** "if the slot has that: 1; else 0": the other kind, another tag, and no tag. */
    private static void passOfWhatItHasNot() {
        for (int c : new int[] {0, 1}) {
            Consumer<FlowKernel> before = k -> passing(k, 31, c);
            String what = "PASS by " + c + " of ";
            for (int tag : new int[] {-1, 256, MIN_VALUE, MAX_VALUE, 30, 32, 255, -225, 287}) {
                Scene.answersAlone(what + tag, Scene.with(before, 1, 2, tag, c), 1, Checks.PASS, 0);
            }
            Scene.answersAlone("PASS of the other", Scene.with(before, 1, 2, 31, 1 - c), 1, Checks.PASS, 0);
        }
    }

    /** "It goes nowhere, if there is no slot a.": 1 all the same, and 0 if it has not what it passes. */
    private static void passToNoSlot() {
        for (int to : NO_SLOTS) {
            Consumer<FlowKernel> before = k -> passing(k, 31, 0);
            Scene.answersAlone("PASS to " + to, Scene.with(before, 1, to, 31, 0), 1, Checks.PASS, 1);
            Scene.answersAlone("PASS nothing to " + to, Scene.with(before, 1, to, 31, 1), 1, Checks.PASS, 0);
        }
    }

    private static void passIntoAFullQueue() {
        for (int waiting : new int[] {7, 8}) {
            FlowKernel k = new FlowKernel();
            passing(k, 31, 0);
            fill(k, 2, waiting);
            Checks.due("PASS with " + waiting, Checks.call(k, 1, Checks.PASS, 2, 31, 0), 1);
            Checks.due("8 wait", k.slot(2, 8), 8);
        }
        Consumer<FlowKernel> full = k -> {
            passing(k, 31, 0);
            fill(k, 2, 8);
        };
        Scene.answersAlone("PASS with 8", Scene.with(full, 1, 2, 31, 0), 1, Checks.PASS, 1);
    }

    private static void passToALabelWithoutL() {
        Consumer<FlowKernel> fewer = k -> {
            passing(k, 31, 0);
            label(k, 1, 16);
            label(k, 2, 15);
        };
        Scene.answersAlone("PASS of 16 to 15", Scene.with(fewer, 1, 2, 31, 0), 1, Checks.PASS, 1);
        FlowKernel k = new FlowKernel();
        fewer.accept(k);
        k.tag(2, 15, true);
        Checks.due("PASS of 16 to 16", Checks.call(k, 1, Checks.PASS, 2, 31, 0), 1);
        Checks.due("it waits", k.slot(2, 8), 1);
    }

    /** "(The slot that gets it has it when it receives it; the one that passes it keeps it.)" */
    private static void passIsKeptAndHadWhenReceived() {
        FlowKernel k = new FlowKernel();
        passing(k, 31, 1);
        Checks.spin(k, 2);
        Checks.call(k, 1, Checks.PASS, 2, 31, 1);
        Checks.due("it keeps it", k.slot(1, 7), 1);
        Checks.due("not yet", k.slot(2, 7), 0);
        Checks.due("PASS on what it has not yet", Checks.call(k, 2, Checks.PASS, 3, 31, 1), 0);
        Checks.due("DROP", Checks.call(k, 1, Checks.DROP, 31, 1, 0), 1);
        Checks.due("RECEIVE", Checks.call(k, 2, Checks.RECEIVE, 0, 0, 0), 2);
        Checks.due("it has it", k.slot(2, 7), 1);
        Checks.due("PASS on", Checks.call(k, 2, Checks.PASS, 2, 31, 1), 1);
        Checks.due("to itself", Checks.call(k, 2, Checks.RECEIVE, 0, 0, 0), 2);
        Checks.due("it has it once", k.slot(2, 7), 1);
    }

    // ---- 5 RECEIVE

    /** "0, if there is no message." */
    private static void receiveOfNothing() {
        Consumer<FlowKernel> none = Scene.with(k -> Checks.spin(k, 1), 1, -5, -6, -7);
        Scene.answersAlone("RECEIVE of none", none, 1, Checks.RECEIVE, 0);
        Consumer<FlowKernel> emptied = k -> {
            fill(k, 1, 1);
            Checks.spin(k, 1);
            Checks.call(k, 1, Checks.RECEIVE, 0, 0, 0);
            k.poke(1, 120, -5, -6, -7);
        };
        Scene.answersAlone("RECEIVE of none any more", emptied, 1, Checks.RECEIVE, 0);
    }

    /** "messages at the front whose label is not in L are dropped; then the first one is taken" */
    private static void receiveDropsAtTheFront() {
        for (int dropped = 0; dropped < 8; dropped++) {
            FlowKernel k = new FlowKernel();
            label(k, 3, 1);
            for (int i = 0; i < 8; i++) {
                k.post(i == dropped ? 7 : 3, 1, 40 + i);
            }
            Checks.spin(k, 1);
            Checks.due("RECEIVE behind " + dropped, Checks.call(k, 1, Checks.RECEIVE, 0, 0, 0), 1);
            Checks.due("its value", k.cell(1, 120), 40 + dropped);
            Checks.due("its sender", k.cell(1, 121), 7);
            Checks.due("those behind it wait", k.slot(1, 8), 7 - dropped);
            label(k, 1, 1);
            for (int i = dropped + 1; i < 8; i++) {
                Checks.due("RECEIVE " + i, Checks.call(k, 1, Checks.RECEIVE, 0, 0, 0), 1);
                Checks.due("its value", k.cell(1, 120), 40 + i);
            }
        }
    }

    /** All eight are dropped: 0, the cells stay, and there is room for eight. */
    private static void receiveDropsAll() {
        FlowKernel k = new FlowKernel();
        label(k, 3, 16);
        label(k, 1, 15);
        fill(k, 1, 8);
        Checks.spin(k, 1);
        Checks.due("RECEIVE", Checks.call(k, 1, Checks.RECEIVE, -5, -6, -7), 0);
        Checks.due("none waits", k.slot(1, 8), 0);
        Checks.due("cell 120", k.cell(1, 120), -5);
        Checks.due("cell 121", k.cell(1, 121), -6);
        for (int i = 1; i <= 8; i++) {
            Checks.due("post", k.post(4, 1, i), i);
        }
        Checks.due("no more", k.post(4, 1, 9), -1);
    }

    private static void receiveDropsACapability() {
        FlowKernel k = new FlowKernel();
        passing(k, 31, 0);
        label(k, 1, 1);
        label(k, 2, 1);
        Checks.call(k, 1, Checks.PASS, 2, 31, 0);
        Checks.due("it waits", k.slot(2, 8), 1);
        k.tag(2, 0, false);
        Checks.spin(k, 2);
        Checks.due("RECEIVE", Checks.call(k, 2, Checks.RECEIVE, 0, 0, 0), 0);
        Checks.due("it is gone", k.slot(2, 8), 0);
        Checks.due("no capability by it", k.slot(2, 6), 0);
    }

    /** Slot 2 has n of the kind, and a capability of tag 255 of that kind waits for it. */
    private static FlowKernel passedTo(int n, int kind) {
        FlowKernel k = new FlowKernel();
        passing(k, 255, kind);
        k.counter(6, 32);
        for (int i = 0; i < n; i++) {
            k.capability(2, kind, i < 32 ? i : 192 + i, true);
        }
        Checks.call(k, 1, Checks.PASS, 2, 255, kind);
        Checks.spin(k, 2);
        return k;
    }

    /** "which the slot has from then on (it is lost, if it has 40 of these)": 38, 39 and 40 of each kind. */
    private static void receiveOfACapabilityUpTo40() {
        for (int kind = 0; kind < 2; kind++) {
            for (int n : new int[] {0, 38, 39, 40}) {
                FlowKernel k = passedTo(n, kind);
                Checks.due("RECEIVE with " + n, Checks.call(k, 2, Checks.RECEIVE, 0, 0, 0), 2);
                Checks.due("its tag", k.cell(2, 120), 255);
                Checks.due("its sender", k.cell(2, 121), 1);
                int then = Math.min(n + 1, 40);
                Checks.due("it has " + then, k.slot(2, 6 + kind), then);
                Checks.due("it is one of them or lost", k.capability(2, kind, 255, false), n == 40 ? 40 : n);
                Checks.due("none waits", k.slot(2, 8), 0);
            }
            FlowKernel k = passedTo(0, kind);
            for (int i = 0; i < 40; i++) {
                k.capability(2, 1 - kind, i < 32 ? i : 192 + i, true);
            }
            Checks.call(k, 2, Checks.RECEIVE, 0, 0, 0);
            Checks.due("40 of the other kind do not matter", k.slot(2, 6 + kind), 1);
        }
    }

    private static void receiveOfACapabilityThatItHas() {
        for (int n : new int[] {0, 39}) {
            FlowKernel k = passedTo(n, 0);
            k.capability(2, 0, 255, true);
            Checks.due("RECEIVE", Checks.call(k, 2, Checks.RECEIVE, 0, 0, 0), 2);
            Checks.due("it has it once", k.slot(2, 6), n + 1);
            Checks.due("it has it", k.capability(2, 0, 255, false), n);
        }
    }

    /** "A is 1, or 2 with a capability": a value that is the number of a tag gives none. */
    private static void receiveOfAValueThatIsNoCapability() {
        FlowKernel k = new FlowKernel();
        passing(k, 31, 0);
        Checks.call(k, 1, Checks.SEND, 2, 31, 0);
        Checks.call(k, 1, Checks.PASS, 2, 31, 0);
        Checks.call(k, 1, Checks.SEND, 2, 30, 1);
        Checks.spin(k, 2);
        int[][] rows = {{1, 31, 0}, {2, 31, 1}, {1, 30, 1}};
        for (int[] row : rows) {
            Checks.due("RECEIVE", Checks.call(k, 2, Checks.RECEIVE, 0, 0, 0), row[0]);
            Checks.due("cell 120", k.cell(2, 120), row[1]);
            Checks.due("PLUS", k.slot(2, 6), row[2]);
            Checks.due("MINUS", k.slot(2, 7), 0);
        }
    }

    // ---- 7 READ

    /** "cell 120 becomes cell b of file a, if it is there, b is 0 to 7": the first and the last. */
    private static void readOfEachCell() {
        for (int f : new int[] {0, 7, 8, 63}) {
            for (int i : new int[] {0, 7}) {
                FlowKernel k = new FlowKernel();
                k.file(f, -1);
                k.fill(f, i, i == 0 ? MIN_VALUE : MAX_VALUE);
                Checks.spin(k, 5);
                Checks.due("READ " + f + ", " + i, Checks.call(k, 5, Checks.READ, f, i, 9), 1);
                Checks.due("cell 120", k.cell(5, 120), i == 0 ? MIN_VALUE : MAX_VALUE);
                Checks.due("cell 121 stays", k.cell(5, 121), i);
                Checks.due("cell 122 stays", k.cell(5, 122), 9);
                Checks.due("the file stays", k.content(f, i), i == 0 ? MIN_VALUE : MAX_VALUE);
            }
        }
    }

    /** "if it is there, b is 0 to 7 .. else 0": nothing is read. */
    private static void readOfNoCell() {
        for (int f : new int[] {-1, 64, MIN_VALUE, MAX_VALUE, 1, 8, 62}) {
            Scene.answersAlone("READ file " + f, Scene.with(Scene::busy, 0, f, 0, 5), 0, Checks.READ, 0);
        }
        for (int i : new int[] {-1, 8, MIN_VALUE, MAX_VALUE}) {
            Scene.answersAlone("READ cell " + i, Scene.with(Scene::busy, 0, 0, i, 5), 0, Checks.READ, 0);
        }
    }

    /** "and its label is in L" */
    private static void readOfALabelThatIsNotInL() {
        int[][] rows = {{0, 0, 1}, {0, 16, 1}, {1, 1, 1}, {16, 16, 1}, {15, 16, 1}, {1, 0, 0}, {16, 15, 0}, {16, 0, 0}};
        for (int[] row : rows) {
            FlowKernel k = labelled(row[1], 0);
            fileWith(k, row[0]);
            Checks.due("READ of " + row[0] + " by " + row[1], Checks.call(k, 1, Checks.READ, 20, 7, 0), row[2]);
            Checks.due("cell 120", k.cell(1, 120), row[2] == 1 ? 55 : 20);
        }
        Consumer<FlowKernel> more = k -> {
            label(k, 1, 15);
            fileWith(k, 16);
            Checks.spin(k, 1);
        };
        Scene.answersAlone("READ of 16 by 15", Scene.with(more, 1, 20, 7, 0), 1, Checks.READ, 0);
    }

    /** File 20 has the tags 0 to n - 1, and 55 in its last cell. */
    private static void fileWith(FlowKernel k, int n) {
        k.counter(0, 32);
        k.file(20, -1);
        for (int t = 0; t < n; t++) {
            k.file(20, t);
        }
        k.fill(20, 7, 55);
    }

    // ---- 8 WRITE

    /** "cell b of file a becomes c, if it is there, b is 0 to 7": the first and the last. */
    private static void writeOfEachCell() {
        for (int f : new int[] {0, 7, 8, 63}) {
            for (int i : new int[] {0, 7}) {
                FlowKernel k = new FlowKernel();
                k.file(f, -1);
                Checks.spin(k, 5);
                int c = i == 0 ? MIN_VALUE : MAX_VALUE;
                Checks.due("WRITE " + f + ", " + i, Checks.call(k, 5, Checks.WRITE, f, i, c), 1);
                for (int other = 0; other < 8; other++) {
                    Checks.due("cell " + other, k.content(f, other), other == i ? c : 0);
                }
                Checks.due("cell 120 stays", k.cell(5, 120), f);
            }
        }
    }

    /** "1 in any case": nothing is written, and no file comes by it. */
    private static void writeOfNoCell() {
        for (int f : new int[] {-1, 64, MIN_VALUE, MAX_VALUE, 1, 8, 62}) {
            Scene.answersAlone("WRITE file " + f, Scene.with(Scene::busy, 0, f, 0, 5), 0, Checks.WRITE, 1);
        }
        for (int i : new int[] {-1, 8, MIN_VALUE, MAX_VALUE}) {
            Scene.answersAlone("WRITE cell " + i, Scene.with(Scene::busy, 0, 0, i, 5), 0, Checks.WRITE, 1);
        }
        FlowKernel k = new FlowKernel();
        Checks.spin(k, 0);
        Checks.call(k, 0, Checks.WRITE, 9, 3, 5);
        k.file(9, -1);
        Checks.due("a file that was made behind it", k.content(9, 3), 0);
    }

    /** "and L is in its label" */
    private static void writeToALabelWithoutL() {
        int[][] rows = {{0, 0, 1}, {0, 16, 1}, {1, 1, 1}, {16, 16, 1}, {15, 16, 1}, {1, 0, 0}, {16, 15, 0}, {16, 0, 0}};
        for (int[] row : rows) {
            FlowKernel k = labelled(row[0], 0);
            fileWith(k, row[1]);
            Checks.due("WRITE by " + row[0] + " to " + row[1], Checks.call(k, 1, Checks.WRITE, 20, 7, 66), 1);
            Checks.due("it is written", k.content(20, 7), row[2] == 1 ? 66 : 55);
        }
        Consumer<FlowKernel> fewer = k -> {
            label(k, 1, 16);
            fileWith(k, 15);
            Checks.spin(k, 1);
        };
        Scene.answersAlone("WRITE of 16 to 15", Scene.with(fewer, 1, 20, 7, 66), 1, Checks.WRITE, 1);
    }

    // ---- 9 SPAWN

    /** "slot a, if this one is its PARENT": slot 0 has none, 8 and 9 are no slots. */
    private static void spawnByTheParentAlone() {
        int[] parents = {-1, 0, 0, 1, 1, 2, 2, 3};
        for (int parent = 0; parent < 8; parent++) {
            int own = parent;
            for (int child = 0; child < 8; child++) {
                FlowKernel k = new FlowKernel();
                Checks.spin(k, own);
                int due = parents[child] == own ? 1 : 0;
                Checks.due("SPAWN " + child + " by " + own, Checks.call(k, own, Checks.SPAWN, child, 110, 1), due);
                Checks.due("IDLE or not", k.slot(child, 0) == 0, due == 0 && child != own);
            }
            for (int none : new int[] {-2, -1, 8, 9, 2 * own + 3, 15, 16, MIN_VALUE, MAX_VALUE}) {
                if (none < 0 || none > 7) {
                    Consumer<FlowKernel> before = Scene.with(k -> Checks.spin(k, own), own, none, 110, 1);
                    Scene.answersAlone("SPAWN " + none + " by " + own, before, own, Checks.SPAWN, 0);
                }
            }
        }
        Consumer<FlowKernel> another = Scene.with(k -> Checks.spin(k, 1), 1, 2, 110, 1);
        Scene.answersAlone("SPAWN 2 by 1", another, 1, Checks.SPAWN, 0);
        Consumer<FlowKernel> itself = Scene.with(k -> Checks.spin(k, 0), 0, 0, 110, 1);
        Scene.answersAlone("SPAWN 0 by 0", itself, 0, Checks.SPAWN, 0);
    }

    /** "it is IDLE": LIVE, HALTED and TRAPPED ones stay as they are. */
    private static void spawnOfASlotThatIsNotIdle() {
        int[] first = {Checks.op(13, 0), 0, 31};
        for (int state = 1; state <= 3; state++) {
            int instruction = first[state - 1];
            Consumer<FlowKernel> before = k -> {
                k.poke(2, 0, instruction, 6, 7);
                k.start(2);
                k.run(8);
                Checks.spin(k, 0);
            };
            FlowKernel k = new FlowKernel();
            before.accept(k);
            Checks.due("state", k.slot(2, 0), state);
            Scene.answersAlone("SPAWN, state " + state, Scene.with(before, 0, 2, 100, 3), 0, Checks.SPAWN, 0);
        }
    }

    /** "its label is in L .. its label is L" */
    private static void spawnOfALabelThatIsNotInL() {
        int[][] rows = {{0, 0, 1}, {0, 16, 1}, {1, 1, 1}, {16, 16, 1}, {15, 16, 1}, {1, 0, 0}, {16, 15, 0}, {16, 0, 0}};
        for (int[] row : rows) {
            Consumer<FlowKernel> before = k -> {
                label(k, 4, row[0]);
                label(k, 1, row[1]);
                k.poke(1, 100, Checks.op(13, 0), 1, 2);
                Checks.spin(k, 1);
            };
            FlowKernel k = new FlowKernel();
            before.accept(k);
            String what = "SPAWN of " + row[0] + " by " + row[1];
            Checks.due(what, Checks.call(k, 1, Checks.SPAWN, 4, 100, 3), row[2]);
            Checks.due("its tags", k.slot(4, 4), row[2] == 1 ? row[1] : row[0]);
            Checks.due("its last tag", k.label(4, row[1] - 1), row[2] == 1 || row[1] <= row[0] ? row[1] - 1 : -1);
            Checks.due("LIVE", k.slot(4, 0), row[2]);
            if (row[2] == 0) {
                Scene.answersAlone(what, Scene.with(before, 1, 4, 100, 3), 1, Checks.SPAWN, 0);
            }
        }
    }

    /** "c is 1 to 128 and b to b + c - 1 are cells .. its cells from 0 on are those (the others stay)" */
    private static void spawnOfCellsThatAreThere() {
        int[][] rows = {{0, 1}, {127, 1}, {126, 2}, {0, 128}, {0, 127}, {1, 127}, {64, 64}};
        for (int[] row : rows) {
            FlowKernel k = new FlowKernel();
            int[] numbers = new int[128];
            int[] others = new int[128];
            for (int i = 0; i < 128; i++) {
                numbers[i] = 32 * (1000 + i) + 13;
                others[i] = -1000 - i;
            }
            Checks.load(k, 0, 0, numbers);
            Checks.load(k, 2, 0, others);
            Checks.spin(k, 0);
            String what = "SPAWN of " + row[1] + " at " + row[0];
            Checks.due(what, Checks.call(k, 0, Checks.SPAWN, 2, row[0], row[1]), 1);
            Checks.due("LIVE", k.slot(2, 0), 1);
            for (int i = 0; i < 128; i++) {
                int due = i < row[1] ? k.cell(0, row[0] + i) : others[i];
                Checks.due(what + ": cell " + i, k.cell(2, i), due);
            }
        }
    }

    /** "else 0": c is 0 or 129, b is below 0, b + c - 1 is 128 or wraps. */
    private static void spawnOfCellsThatAreNot() {
        int[][] rows = {{0, 0}, {0, -1}, {0, 129}, {-1, 1}, {-1, 2}, {-1, 128}, {1, 128}, {127, 2}, {126, 3}, {128, 1},
            {65, 64}, {128, 0}, {MAX_VALUE, 1}, {MAX_VALUE, 2}, {MAX_VALUE, 128}, {MAX_VALUE - 126, 128},
            {MIN_VALUE, 1}, {MIN_VALUE, 128}, {0, MIN_VALUE}, {0, MAX_VALUE}, {1, MAX_VALUE}, {2, MAX_VALUE},
            {MIN_VALUE, MIN_VALUE}, {MIN_VALUE, MAX_VALUE}, {MAX_VALUE, MIN_VALUE}, {-127, 128}};
        for (int[] row : rows) {
            Consumer<FlowKernel> before = k -> {
                k.poke(2, 0, 5, 6, 7);
                Checks.spin(k, 0);
            };
            String what = "SPAWN of " + row[1] + " at " + row[0];
            Scene.answersAlone(what, Scene.with(before, 0, 2, row[0], row[1]), 0, Checks.SPAWN, 0);
        }
    }

    /** What else a child has stays: it is as if poke, tag and start had made it. */
    private static void spawnDoesNoMore() {
        Consumer<FlowKernel> before = k -> {
            k.counter(0, 4);
            k.counter(2, 3);
            k.tag(0, 1, true);
            k.tag(0, 3, true);
            k.tag(2, 1, true);
            k.capability(0, 0, 2, true);
            k.capability(2, 1, 3, true);
            k.file(17, 1);
            k.post(0, 2, 5);
            k.poke(2, 0, 6, 7, 8);
            k.poke(0, 100, Checks.op(13, 0), 9, 0);
            Checks.spin(k, 0);
            k.poke(0, 120, 2, 100, 2);
        };
        Consumer<FlowKernel> spawned = k -> {
            before.accept(k);
            Checks.drive(k, 0, Checks.op(16, Checks.SPAWN));
            k.poke(0, 0, 0, Checks.op(13, 1), 0);
        };
        Consumer<FlowKernel> made = k -> {
            before.accept(k);
            k.poke(2, 0, Checks.op(13, 0), 9, 8);
            k.tag(2, 3, true);
            k.start(2);
            Checks.drive(k, 0, Checks.op(3, 1));
            k.poke(0, 0, 0, Checks.op(13, 1), 0);
        };
        Scene.same("SPAWN and poke, tag, start", made, spawned);
    }

    // ---- 10 OUTPUT

    /** Slot 3 has made n outputs, each of the value 5 and without tags. */
    private static void outputs(FlowKernel k, int n) {
        k.poke(3, 0, Checks.op(16, Checks.OUTPUT), Checks.op(13, 0), 0);
        k.poke(3, 120, 5, 0, 0);
        k.start(3);
        k.run(16 * n);
        k.poke(3, 0, Checks.op(13, 0), 0, 0);
    }

    /** "a is one more output, if there is room: 1 in any case." (64 at most) */
    private static void outputUpTo64() {
        Consumer<FlowKernel> full = k -> {
            outputs(k, 64);
            label(k, 3, 2);
        };
        Scene.answersAlone("OUTPUT with 64", Scene.with(full, 3, 6, 0, 0), 3, Checks.OUTPUT, 1);
        FlowKernel k = new FlowKernel();
        outputs(k, 63);
        label(k, 3, 16);
        Checks.due("63 outputs", k.slot(3, 10), 63);
        Checks.due("OUTPUT with 63", Checks.call(k, 3, Checks.OUTPUT, 6, 0, 0), 1);
        Checks.due("64 outputs", k.slot(3, 10), 64);
        Checks.due("the last", k.output(3, 63), 6);
        Checks.due("its tags", k.outputTags(3, 63), 16);
        Checks.due("OUTPUT with 64", Checks.call(k, 3, Checks.OUTPUT, 7, 0, 0), 1);
        Checks.due("64 outputs still", k.slot(3, 10), 64);
        Checks.due("the last stays", k.output(3, 63), 6);
        Checks.due("the first stays", k.output(3, 0), 5);
        Checks.due("another slot has none", k.slot(4, 10), 0);
    }

    private static void outputOfEachValue() {
        FlowKernel k = new FlowKernel();
        Checks.spin(k, 0);
        int[] values = {MIN_VALUE, -1, 0, MAX_VALUE};
        for (int i = 0; i < values.length; i++) {
            Checks.due("OUTPUT", Checks.call(k, 0, Checks.OUTPUT, values[i], 1, 2), 1);
            Checks.due("it is seen", k.output(0, i), values[i]);
            Checks.due("they are so many", k.slot(0, 10), i + 1);
            Checks.due("a stays", k.cell(0, 120), values[i]);
        }
    }
}
