import static java.lang.Integer.MAX_VALUE;
import static java.lang.Integer.MIN_VALUE;

/** Promise 10: the system calls 0 to 11. */
public final class SystemCallTest {
    public static void main(String[] args) {
        tag();
        tagAtMost32();
        tagWith40Capabilities();
        change();
        changeNeedsBoth();
        lists();
        badLists();
        drop();
        send();
        sendWithRoom();
        pass();
        passLostAt40();
        receiveDrops();
        create();
        createTrapsFirst();
        read();
        write();
        spawn();
        spawnOfNoSlot();
        spawnRefused();
        spawnOfCells();
        output();
        size();
        Checks.finish();
    }

    private static void tag() {
        FlowKernel k = new FlowKernel();
        k.counter(2, 3);
        Checks.spin(k, 2);
        Checks.due("TAG", Checks.call(k, 2, Checks.TAG, 0, 0, 0), 67);
        Checks.due("TAG next", Checks.call(k, 2, Checks.TAG, 0, 0, 0), 68);
        Checks.due("COUNTER", k.slot(2, 5), 5);
        Checks.due("PLUS", k.slot(2, 6), 2);
        Checks.due("MINUS", k.slot(2, 7), 2);
        Checks.due("PLUS of 68", k.capability(2, 0, 68, false), 1);
        Checks.due("MINUS of 67", k.capability(2, 1, 67, false), 1);
        Checks.due("the label stays", k.slot(2, 4), 0);
    }

    private static void tagAtMost32() {
        FlowKernel k = new FlowKernel();
        k.counter(7, 31);
        Checks.spin(k, 7);
        Checks.due("the last TAG", Checks.call(k, 7, Checks.TAG, 0, 0, 0), 255);
        Checks.due("a TAG too many", Checks.call(k, 7, Checks.TAG, 0, 0, 0), -1);
        Checks.due("COUNTER", k.slot(7, 5), 32);
        Checks.due("PLUS", k.slot(7, 6), 1);
    }

    private static void tagWith40Capabilities() {
        for (int kind = 0; kind < 2; kind++) {
            FlowKernel k = new FlowKernel();
            k.counter(0, 32);
            k.counter(1, 32);
            for (int t = 0; t < 39; t++) {
                k.capability(5, kind, t, true);
            }
            Checks.spin(k, 5);
            Checks.due("TAG with 39", Checks.call(k, 5, Checks.TAG, 0, 0, 0), 160);
            Checks.due("TAG with 40", Checks.call(k, 5, Checks.TAG, 0, 0, 0), -1);
            Checks.due("COUNTER", k.slot(5, 5), 1);
            Checks.due("40 of the kind", k.slot(5, 6 + kind), 40);
            Checks.due("1 of the other", k.slot(5, 7 - kind), 1);
        }
    }

    private static void change() {
        FlowKernel k = new FlowKernel();
        k.counter(0, 4);
        Checks.spin(k, 1);
        k.capability(1, 0, 0, true);
        k.capability(1, 0, 2, true);
        k.capability(1, 1, 0, true);
        k.tag(1, 3, true);
        Checks.due("0 comes", Checks.call(k, 1, Checks.CHANGE, Checks.list(k, 1, 3, 0), 0, 0), 1);
        Checks.due("two tags", k.slot(1, 4), 2);
        Checks.due("2 comes, 0 goes", Checks.call(k, 1, Checks.CHANGE, Checks.list(k, 1, 2, 3), 0, 0), 1);
        Checks.due("first", k.label(1, 0), 2);
        Checks.due("second", k.label(1, 1), 3);
        Checks.due("nothing changes", Checks.call(k, 1, Checks.CHANGE, Checks.list(k, 1, 3, 2), 0, 0), 1);
        Checks.due("A tag that is not there", Checks.call(k, 1, Checks.CHANGE, Checks.list(k, 1, 3, 2, 200), 0, 0), 0);
        Checks.due("capabilities stay", k.slot(1, 6), 2);
    }

    private static void changeNeedsBoth() {
        FlowKernel k = new FlowKernel();
        k.counter(0, 4);
        Checks.spin(k, 1);
        k.tag(1, 0, true);
        k.capability(1, 1, 1, true);
        k.capability(1, 0, 0, true);
        Checks.due("1 may not come by MINUS", Checks.call(k, 1, Checks.CHANGE, Checks.list(k, 1, 0, 1), 0, 0), 0);
        Checks.due("0 may not go by PLUS", Checks.call(k, 1, Checks.CHANGE, Checks.list(k, 1), 0, 0), 0);
        k.capability(1, 0, 1, true);
        Checks.due("1 may come, 0 may not go", Checks.call(k, 1, Checks.CHANGE, Checks.list(k, 1, 1), 0, 0), 0);
        Checks.due("label stays", k.label(1, 0), 0);
        Checks.due("label has one", k.slot(1, 4), 1);
        k.capability(1, 1, 0, true);
        Checks.due("now both may", Checks.call(k, 1, Checks.CHANGE, Checks.list(k, 1, 1), 0, 0), 1);
        Checks.due("label is new", k.label(1, 0), 1);
    }

    private static void lists() {
        FlowKernel k = new FlowKernel();
        k.counter(0, 32);
        Checks.spin(k, 1);
        for (int t = 0; t < 20; t++) {
            k.capability(1, 0, t, true);
            k.capability(1, 1, t, true);
        }
        int at = Checks.list(k, 1, 5, -1, 256, 5, MIN_VALUE, MAX_VALUE, 4, 5);
        Checks.due("odd numbers are left out", Checks.call(k, 1, Checks.CHANGE, at, 0, 0), 1);
        Checks.due("4", k.label(1, 0), 4);
        Checks.due("5", k.label(1, 1), 5);
        Checks.due("no more", k.slot(1, 4), 2);
        at = Checks.list(k, 1, 0, 1, 2, 3, 4, 5, 6, 7, 8, 9, 10, 11, 12, 13, 14, 15);
        Checks.due("16 numbers", Checks.call(k, 1, Checks.CHANGE, at, 0, 0), 1);
        Checks.due("16 tags", k.slot(1, 4), 16);
        Checks.load(k, 1, 127, 0);
        Checks.due("an empty list in the last cell", Checks.call(k, 1, Checks.CHANGE, 127, 0, 0), 1);
        Checks.due("no tags", k.slot(1, 4), 0);
        Checks.load(k, 1, 126, 1, 9);
        Checks.due("a list up to the last cell", Checks.call(k, 1, Checks.CHANGE, 126, 0, 0), 1);
        Checks.due("one tag", k.label(1, 0), 9);
    }

    private static void badList(String what, int call, int at, int n) {
        FlowKernel k = new FlowKernel();
        Checks.spin(k, 1);
        Checks.drive(k, 1, Checks.op(3, 77));
        if (at >= 0 && at < 128) {
            Checks.load(k, 1, at, n);
        }
        Checks.call(k, 1, call, at, 0, 0);
        Checks.due(what + ": TRAPPED", k.slot(1, 0), 3);
        Checks.due(what + ": TRAP", k.slot(1, 1), 2);
        Checks.due(what + ": A", k.slot(1, 2), 77);
        Checks.due(what + ": PLACE", k.slot(1, 3), 2);
        Checks.due(what + ": no file", k.slot(1, 9), 0);
    }

    private static void badLists() {
        for (int call : new int[] {Checks.CHANGE, Checks.CREATE}) {
            badList("17 numbers", call, 90, 17);
            badList("-1 numbers", call, 90, -1);
            badList("least number", call, 90, MIN_VALUE);
            badList("greatest number", call, 90, MAX_VALUE);
            badList("past the end", call, 127, 1);
            badList("16 past the end", call, 112, 16);
            badList("at -1", call, -1, 0);
            badList("at 128", call, 128, 0);
            badList("at least", call, MIN_VALUE, 0);
            badList("at greatest", call, MAX_VALUE, 0);
        }
    }

    private static void drop() {
        FlowKernel k = new FlowKernel();
        k.counter(0, 2);
        Checks.spin(k, 1);
        for (int kind = 0; kind < 2; kind++) {
            k.capability(1, kind, 0, true);
            k.capability(1, kind, 1, true);
        }
        Checks.due("DROP PLUS", Checks.call(k, 1, Checks.DROP, 1, 0, 0), 1);
        Checks.due("DROP it again", Checks.call(k, 1, Checks.DROP, 1, 0, 0), 0);
        Checks.due("one PLUS", k.slot(1, 6), 1);
        Checks.due("two MINUS", k.slot(1, 7), 2);
        Checks.due("DROP MINUS", Checks.call(k, 1, Checks.DROP, 0, -9, 0), 1);
        Checks.due("one MINUS", k.slot(1, 7), 1);
        Checks.due("DROP MINUS by 1", Checks.call(k, 1, Checks.DROP, 1, 1, 0), 1);
        for (int t : new int[] {-1, 256, 32, MIN_VALUE, MAX_VALUE}) {
            Checks.due("DROP " + t, Checks.call(k, 1, Checks.DROP, t, 0, 0), 0);
        }
    }

    private static void send() {
        FlowKernel k = new FlowKernel();
        k.counter(0, 2);
        Checks.spin(k, 1);
        k.tag(1, 0, true);
        k.tag(3, 0, true);
        k.tag(3, 1, true);
        Checks.due("SEND to more tags", Checks.call(k, 1, Checks.SEND, 3, 55, 0), 1);
        Checks.due("it waits", k.slot(3, 8), 1);
        Checks.due("SEND to fewer tags", Checks.call(k, 1, Checks.SEND, 2, 55, 0), 1);
        Checks.due("it is gone", k.slot(2, 8), 0);
        Checks.due("SEND to itself", Checks.call(k, 1, Checks.SEND, 1, 56, 0), 1);
        Checks.due("it waits, too", k.slot(1, 8), 1);
        for (int to : new int[] {-1, 8, MIN_VALUE, MAX_VALUE}) {
            Checks.due("SEND to " + to, Checks.call(k, 1, Checks.SEND, to, 5, 0), 1);
        }
        Checks.spin(k, 3);
        Checks.due("RECEIVE", Checks.call(k, 3, Checks.RECEIVE, 0, 0, 0), 1);
        Checks.due("the value", k.cell(3, 120), 55);
        Checks.due("the sender", k.cell(3, 121), 1);
    }

    private static void sendWithRoom() {
        FlowKernel k = new FlowKernel();
        Checks.spin(k, 1);
        for (int i = 0; i < 7; i++) {
            k.post(0, 2, i);
        }
        Checks.due("the 8th", Checks.call(k, 1, Checks.SEND, 2, 100, 0), 1);
        Checks.due("the 9th", Checks.call(k, 1, Checks.SEND, 2, 101, 0), 1);
        Checks.due("8 wait", k.slot(2, 8), 8);
        Checks.spin(k, 2);
        for (int i = 0; i < 3; i++) {
            Checks.call(k, 2, Checks.RECEIVE, 0, 0, 0);
        }
        Checks.due("the place is used again", Checks.call(k, 1, Checks.SEND, 2, 102, 0), 1);
        int[] want = {3, 4, 5, 6, 100, 102};
        for (int value : want) {
            Checks.due("RECEIVE", Checks.call(k, 2, Checks.RECEIVE, 0, 0, 0), 1);
            Checks.due("in order", k.cell(2, 120), value);
        }
        Checks.due("none", Checks.call(k, 2, Checks.RECEIVE, 7, 8, 0), 0);
        Checks.due("cell 120 stays", k.cell(2, 120), 7);
        Checks.due("cell 121 stays", k.cell(2, 121), 8);
    }

    private static void pass() {
        FlowKernel k = new FlowKernel();
        k.counter(0, 2);
        k.capability(1, 0, 0, true);
        k.capability(1, 1, 1, true);
        Checks.spin(k, 1);
        Checks.due("PASS PLUS", Checks.call(k, 1, Checks.PASS, 2, 0, 0), 1);
        Checks.due("PASS MINUS", Checks.call(k, 1, Checks.PASS, 2, 1, -3), 1);
        Checks.due("PASS what it has not", Checks.call(k, 1, Checks.PASS, 2, 0, 1), 0);
        for (int t : new int[] {-1, 256, MIN_VALUE, MAX_VALUE}) {
            Checks.due("PASS " + t, Checks.call(k, 1, Checks.PASS, 2, t, 0), 0);
        }
        Checks.due("PASS to no slot", Checks.call(k, 1, Checks.PASS, 8, 0, 0), 1);
        Checks.due("PASS to no slot what it has not", Checks.call(k, 1, Checks.PASS, 8, 1, 0), 0);
        Checks.due("two wait", k.slot(2, 8), 2);
        Checks.due("not before it is received", k.slot(2, 6), 0);
        Checks.due("it keeps it", k.slot(1, 6), 1);
        Checks.call(k, 1, Checks.DROP, 0, 0, 0);
        Checks.spin(k, 2);
        Checks.due("RECEIVE PLUS", Checks.call(k, 2, Checks.RECEIVE, 9, 9, 0), 2);
        Checks.due("its tag", k.cell(2, 120), 0);
        Checks.due("its sender", k.cell(2, 121), 1);
        Checks.due("it has PLUS", k.slot(2, 6), 1);
        Checks.due("RECEIVE MINUS", Checks.call(k, 2, Checks.RECEIVE, 9, 9, 0), 2);
        Checks.due("its tag is 1", k.cell(2, 120), 1);
        Checks.due("it has MINUS", k.slot(2, 7), 1);
        k.tag(1, 0, true);
        Checks.due("PASS to fewer tags", Checks.call(k, 1, Checks.PASS, 2, 1, 1), 1);
        Checks.due("it is gone", k.slot(2, 8), 0);
    }

    private static void passLostAt40() {
        FlowKernel k = new FlowKernel();
        k.counter(0, 32);
        k.counter(1, 32);
        for (int t = 0; t < 40; t++) {
            k.capability(2, 0, t, true);
        }
        k.capability(1, 0, 50, true);
        k.capability(1, 0, 39, true);
        Checks.spin(k, 1);
        Checks.spin(k, 2);
        Checks.call(k, 1, Checks.PASS, 2, 50, 0);
        Checks.call(k, 1, Checks.PASS, 2, 39, 0);
        Checks.due("RECEIVE what is lost", Checks.call(k, 2, Checks.RECEIVE, 0, 0, 0), 2);
        Checks.due("its tag", k.cell(2, 120), 50);
        Checks.due("still 40", k.slot(2, 6), 40);
        Checks.due("RECEIVE what it has", Checks.call(k, 2, Checks.RECEIVE, 0, 0, 0), 2);
        Checks.due("40 still", k.slot(2, 6), 40);
        Checks.due("50 is not among them", k.capability(2, 0, 50, false), 40);
        Checks.due("39 is", k.capability(2, 0, 39, false), 39);
    }

    private static void receiveDrops() {
        FlowKernel k = new FlowKernel();
        k.counter(0, 1);
        k.tag(1, 0, true);
        k.post(1, 2, 10);
        k.post(1, 2, 11);
        k.post(3, 2, 12);
        k.post(1, 2, 13);
        Checks.spin(k, 2);
        Checks.due("all wait", k.slot(2, 8), 4);
        Checks.due("RECEIVE", Checks.call(k, 2, Checks.RECEIVE, 0, 0, 0), 1);
        Checks.due("the first that may come", k.cell(2, 120), 12);
        Checks.due("only those at the front were dropped", k.slot(2, 8), 1);
        Checks.due("RECEIVE none", Checks.call(k, 2, Checks.RECEIVE, 0, 0, 0), 0);
        Checks.due("the last is dropped", k.slot(2, 8), 0);
        k.post(1, 2, 14);
        k.tag(2, 0, true);
        Checks.due("by the label of now", Checks.call(k, 2, Checks.RECEIVE, 0, 0, 0), 1);
        Checks.due("14", k.cell(2, 120), 14);
    }

    private static void create() {
        FlowKernel k = new FlowKernel();
        k.counter(0, 2);
        k.file(17, -1);
        Checks.spin(k, 2);
        k.tag(2, 0, true);
        Checks.due("L is not in it", Checks.call(k, 2, Checks.CREATE, Checks.list(k, 2, 1), 0, 0), -1);
        Checks.due("nothing made", k.slot(2, 9), 1);
        Checks.due("the least", Checks.call(k, 2, Checks.CREATE, Checks.list(k, 2, 200, 0), 0, 0), 16);
        Checks.due("tags, THERE or not", k.fileTags(16), 2);
        Checks.due("17 is there", Checks.call(k, 2, Checks.CREATE, Checks.list(k, 2, 0, 0), 0, 0), 18);
        Checks.due("told twice", k.fileTags(18), 1);
        for (int f = 19; f < 24; f++) {
            Checks.due("next", Checks.call(k, 2, Checks.CREATE, Checks.list(k, 2, 0), 0, 0), f);
        }
        Checks.due("all are there", Checks.call(k, 2, Checks.CREATE, Checks.list(k, 2, 0), 0, 0), -1);
        Checks.due("8 files", k.slot(2, 9), 8);
        for (int i = 0; i < 8; i++) {
            Checks.due("cells of 0", k.content(16, i), 0);
        }
        Checks.due("the next slot has none", k.fileTags(24), -1);
    }

    private static void createTrapsFirst() {
        FlowKernel k = new FlowKernel();
        for (int f = 8; f < 16; f++) {
            k.file(f, -1);
        }
        Checks.spin(k, 1);
        Checks.call(k, 1, Checks.CREATE, 128, 0, 0);
        Checks.due("TRAP though all are there", k.slot(1, 1), 2);
    }

    private static void read() {
        FlowKernel k = new FlowKernel();
        k.counter(0, 2);
        k.file(63, 0);
        k.fill(63, 7, -8);
        Checks.spin(k, 1);
        Checks.due("READ more tags", Checks.call(k, 1, Checks.READ, 63, 7, 0), 0);
        Checks.due("cell 120 stays", k.cell(1, 120), 63);
        k.tag(1, 0, true);
        k.tag(1, 1, true);
        Checks.due("READ fewer tags", Checks.call(k, 1, Checks.READ, 63, 7, 0), 1);
        Checks.due("cell 120", k.cell(1, 120), -8);
        Checks.due("cell 121", k.cell(1, 121), 7);
        for (int f : new int[] {62, 64, -1, MIN_VALUE, MAX_VALUE}) {
            Checks.due("READ file " + f, Checks.call(k, 1, Checks.READ, f, 0, 0), 0);
        }
        for (int i : new int[] {8, -1, MIN_VALUE, MAX_VALUE}) {
            Checks.due("READ cell " + i, Checks.call(k, 1, Checks.READ, 63, i, 0), 0);
        }
    }

    private static void write() {
        FlowKernel k = new FlowKernel();
        k.counter(0, 2);
        k.file(63, 0);
        k.file(63, 1);
        Checks.spin(k, 1);
        k.tag(1, 0, true);
        Checks.due("WRITE to more tags", Checks.call(k, 1, Checks.WRITE, 63, 7, -8), 1);
        Checks.due("it is written", k.content(63, 7), -8);
        k.file(0, 1);
        Checks.due("WRITE to other tags", Checks.call(k, 1, Checks.WRITE, 0, 0, 5), 1);
        Checks.due("it is not written", k.content(0, 0), 0);
        for (int f : new int[] {62, 64, -1, MIN_VALUE, MAX_VALUE}) {
            Checks.due("WRITE file " + f, Checks.call(k, 1, Checks.WRITE, f, 0, 5), 1);
        }
        for (int i : new int[] {8, -1, MIN_VALUE, MAX_VALUE}) {
            Checks.due("WRITE cell " + i, Checks.call(k, 1, Checks.WRITE, 63, i, 5), 1);
        }
        k.file(62, -1);
        Checks.due("nothing was written ahead of its time", k.content(62, 0), 0);
    }

    private static void spawn() {
        for (int parent = 0; parent < 8; parent++) {
            for (int child = 0; child < 8; child++) {
                FlowKernel k = new FlowKernel();
                Checks.spin(k, parent);
                boolean may = child != 0 && (child + 1) / 2 - 1 == parent;
                Checks.load(k, parent, 100, Checks.op(13, 0));
                int got = Checks.call(k, parent, Checks.SPAWN, child, 100, 1);
                Checks.due("SPAWN " + child + " by " + parent, got, may ? 1 : 0);
                Checks.due("LIVE", k.slot(child, 0), may || child == parent ? 1 : 0);
            }
        }
    }

    /** Numbers whose parent would be the slot, if they were slots. */
    private static void spawnOfNoSlot() {
        int[][] pairs = {{3, 8}, {7, 15}, {7, 16}, {0, 0}, {0, -1}};
        for (int[] pair : pairs) {
            FlowKernel k = new FlowKernel();
            Checks.spin(k, pair[0]);
            int got = Checks.call(k, pair[0], Checks.SPAWN, pair[1], 0, 1);
            Checks.due("SPAWN " + pair[1] + " by " + pair[0], got, 0);
        }
    }

    private static void spawnRefused() {
        FlowKernel k = new FlowKernel();
        k.counter(0, 2);
        Checks.spin(k, 0);
        Checks.load(k, 0, 100, Checks.op(13, 0));
        for (int to : new int[] {-1, 8, MIN_VALUE, MAX_VALUE}) {
            Checks.due("SPAWN " + to, Checks.call(k, 0, Checks.SPAWN, to, 100, 1), 0);
        }
        k.tag(1, 1, true);
        Checks.due("its label is not in L", Checks.call(k, 0, Checks.SPAWN, 1, 100, 1), 0);
        Checks.due("it is IDLE", k.slot(1, 0), 0);
        k.tag(0, 0, true);
        k.tag(0, 1, true);
        Checks.due("now it is", Checks.call(k, 0, Checks.SPAWN, 1, 100, 1), 1);
        Checks.due("its label is L", k.slot(1, 4), 2);
        k.tag(0, 0, false);
        Checks.due("its label is its own", k.slot(1, 4), 2);
        Checks.due("it is LIVE", Checks.call(k, 0, Checks.SPAWN, 1, 100, 1), 0);
        k.tag(0, 1, false);
        k.start(2);
        k.run(8);
        Checks.due("2 is HALTED", k.slot(2, 0), 2);
        Checks.due("it is HALTED", Checks.call(k, 0, Checks.SPAWN, 2, 100, 1), 0);
        Checks.due("it stays so", k.slot(2, 0), 2);
    }

    private static void spawnOfCells() {
        int[][] bad = {{0, 0}, {0, -1}, {0, 129}, {-1, 1}, {1, 128}, {127, 2}, {128, 1}, {0, MIN_VALUE},
            {0, MAX_VALUE}, {MAX_VALUE, 1}, {MAX_VALUE, 128}, {MIN_VALUE, 1}, {MIN_VALUE, MIN_VALUE}, {2, MAX_VALUE}};
        for (int[] pair : bad) {
            FlowKernel k = new FlowKernel();
            Checks.spin(k, 0);
            int got = Checks.call(k, 0, Checks.SPAWN, 2, pair[0], pair[1]);
            Checks.due("SPAWN of " + pair[1] + " cells at " + pair[0], got, 0);
            Checks.due("IDLE", k.slot(2, 0), 0);
        }
        FlowKernel last = new FlowKernel();
        Checks.spin(last, 0);
        last.poke(2, 0, 7, 8, 9);
        Checks.load(last, 0, 126, Checks.op(3, 5), Checks.op(13, 1));
        Checks.due("up to the last cell", Checks.call(last, 0, Checks.SPAWN, 2, 126, 2), 1);
        Checks.due("cell 0", last.cell(2, 0), Checks.op(3, 5));
        Checks.due("cell 1", last.cell(2, 1), Checks.op(13, 1));
        Checks.due("cell 2 stays", last.cell(2, 2), 9);
        Checks.due("its turn came after it", last.slot(2, 2), 5);
        Checks.due("it began at 0", last.slot(2, 3), 1);
        FlowKernel all = new FlowKernel();
        Checks.spin(all, 0);
        Checks.load(all, 0, 127, 99);
        Checks.due("all cells", Checks.call(all, 0, Checks.SPAWN, 1, 0, 128), 1);
        Checks.due("the last one", all.cell(1, 127), 99);
        Checks.due("cell 122", all.cell(1, 122), 128);
    }

    private static void output() {
        FlowKernel k = new FlowKernel();
        k.poke(4, 0, Checks.op(16, Checks.OUTPUT), Checks.op(1, 120), Checks.op(6, 110));
        k.poke(4, 3, Checks.op(2, 120), Checks.op(13, 0), 0);
        k.poke(4, 110, 1, 0, 0);
        k.start(4);
        k.run(5000);
        k.run(8);
        k.run(8);
        Checks.due("64 OUTPUTS", k.slot(4, 10), 64);
        Checks.due("the first", k.output(4, 0), 0);
        Checks.due("the last", k.output(4, 63), 63);
        Checks.due("no more", k.output(4, 64), 0);
        Checks.due("no more tags", k.outputTags(4, 64), -1);
        Checks.due("still LIVE", k.slot(4, 0), 1);
        FlowKernel one = new FlowKernel();
        Checks.spin(one, 0);
        Checks.due("OUTPUT answers", Checks.call(one, 0, Checks.OUTPUT, 44, 0, 0), 1);
        FlowKernel full = new FlowKernel();
        full.poke(0, 0, Checks.op(16, Checks.OUTPUT), Checks.op(13, 0), 0);
        full.start(0);
        full.run(8 * 2 * 64);
        Checks.due("full", full.slot(0, 10), 64);
        full.poke(0, 0, Checks.op(3, 7), Checks.op(16, Checks.OUTPUT), Checks.op(0, 0));
        full.run(24);
        Checks.due("OUTPUT without room answers", full.slot(0, 2), 1);
        Checks.due("HALTED", full.slot(0, 0), 2);
    }

    private static void size() {
        FlowKernel k = new FlowKernel();
        k.counter(0, 2);
        Checks.spin(k, 3);
        Checks.due("no tags", Checks.call(k, 3, Checks.SIZE, 0, 0, 0), 0);
        k.tag(3, 0, true);
        k.tag(3, 1, true);
        Checks.due("two tags", Checks.call(k, 3, Checks.SIZE, 0, 0, 0), 2);
    }
}
