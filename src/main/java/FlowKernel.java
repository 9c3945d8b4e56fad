/**
 * Eight slots run programs of their own turn by turn; what they know of one another flows by
 * messages, files and children, and only from a label to one that has all its tags.
 *
 * All rows are made with the object and used again, so that no call makes anything new.
 */
public final class FlowKernel {
    private static final int SLOTS = 8;
    private static final int CELLS = 128;
    private static final int TAGS_EACH = 32;
    private static final int TAGS = 256;
    private static final int LABEL_MOST = 16;
    private static final int CAPABILITY_MOST = 40;
    private static final int QUEUE_MOST = 8;
    private static final int FILES_EACH = 8;
    private static final int FILE_CELLS = 8;
    private static final int OUTPUT_MOST = 64;
    private static final int RUN_MOST = 5000;

    private static final int IDLE = 0;
    private static final int LIVE = 1;
    private static final int HALTED = 2;
    private static final int TRAPPED = 3;

    private static final int TRAP_UNKNOWN = 1;
    private static final int TRAP_NO_CELL = 2;
    private static final int TRAP_DIVISOR = 3;

    private static final int PLUS = 0;
    private static final int MINUS = 1;
    private static final int NO_CAPABILITY = -1;

    private static final int OP_SYSTEM_CALL = 16;
    private static final int CALL_CHANGE = 1;
    private static final int CALL_CREATE = 6;

    private static final int CELL_A = 120;
    private static final int CELL_B = 121;
    private static final int CELL_C = 122;

    private final Slot[] slots;
    private final TagSet listed;
    private int turns;

    public FlowKernel() {
        slots = new Slot[SLOTS];
        for (int i = 0; i < SLOTS; i++) {
            slots[i] = new Slot(i);
        }
        listed = new TagSet();
        turns = 0;
    }

    // ---- how it begins: these calls set what is there, whatever the labels are

    public int poke(int slot, int place, int p, int q, int r) {
        if (!isSlot(slot) || place < 0 || place > CELLS - 3) {
            return -1;
        }
        int[] memory = slots[slot].memory;
        memory[place] = p;
        memory[place + 1] = q;
        memory[place + 2] = r;
        return 1;
    }

    public int start(int slot) {
        if (!isSlot(slot) || slots[slot].state != IDLE) {
            return -1;
        }
        slots[slot].state = LIVE;
        return 1;
    }

    public int counter(int slot, int n) {
        if (!isSlot(slot) || n < 0 || n > TAGS_EACH) {
            return -1;
        }
        int before = slots[slot].counter;
        if (n < before) {
            return -2;
        }
        slots[slot].counter = n;
        return before;
    }

    public int tag(int slot, int tag, boolean on) {
        if (!isSlot(slot) || !isThere(tag)) {
            return -1;
        }
        return slots[slot].label.change(tag, on, LABEL_MOST);
    }

    public int capability(int slot, int kind, int tag, boolean on) {
        if (!isSlot(slot) || (kind != PLUS && kind != MINUS) || !isThere(tag)) {
            return -1;
        }
        return slots[slot].capabilities(kind).change(tag, on, CAPABILITY_MOST);
    }

    public int file(int k, int tag) {
        if (!isFile(k) || (tag >= 0 && !isThere(tag))) {
            return -1;
        }
        StoredFile f = fileAt(k);
        f.there = true;
        if (tag < 0) {
            return f.label.size;
        }
        return f.label.change(tag, true, LABEL_MOST);
    }

    public int fill(int k, int i, int v) {
        if (!isFileCell(k, i)) {
            return 0;
        }
        int[] cells = fileAt(k).cells;
        int before = cells[i];
        cells[i] = v;
        return before;
    }

    public int post(int from, int to, int value) {
        if (!isSlot(from) || !isSlot(to)) {
            return -1;
        }
        Queue queue = slots[to].queue;
        if (!queue.put(slots[from], value, NO_CAPABILITY)) {
            return -1;
        }
        return queue.size;
    }

    // ---- turns, and what can be seen

    public int run(int n) {
        if (n < 0 || n > RUN_MOST) {
            return -1;
        }
        for (int i = 0; i < n; i++) {
            Slot s = slots[Math.floorMod(turns, SLOTS)];
            turns++;
            if (s.state == LIVE) {
                step(s);
            }
        }
        return turns;
    }

    public int cell(int slot, int place) {
        return isSlot(slot) && isPlace(place) ? slots[slot].memory[place] : 0;
    }

    public int slot(int slot, int what) {
        if (!isSlot(slot)) {
            return -1;
        }
        Slot s = slots[slot];
        switch (what) {
            case 0: return s.state;
            case 1: return s.trap;
            case 2: return s.a;
            case 3: return s.place;
            case 4: return s.label.size;
            case 5: return s.counter;
            case 6: return s.plus.size;
            case 7: return s.minus.size;
            case 8: return s.queue.size;
            case 9: return s.countFiles();
            case 10: return s.outputCount;
            default: return -1;
        }
    }

    public int label(int slot, int i) {
        return isSlot(slot) ? slots[slot].label.tagAt(i) : -1;
    }

    public int output(int slot, int i) {
        return isOutput(slot, i) ? slots[slot].outputs[i] : 0;
    }

    public int outputTags(int slot, int i) {
        return isOutput(slot, i) ? slots[slot].outputLabelSizes[i] : -1;
    }

    public int content(int k, int i) {
        return isFileCell(k, i) ? fileAt(k).cells[i] : 0;
    }

    public int fileTags(int k) {
        return isFile(k) && fileAt(k).there ? fileAt(k).label.size : -1;
    }

    public boolean mayFlow(int from, int to) {
        return isSlot(from) && isSlot(to) && slots[from].label.isIn(slots[to].label);
    }

    // ---- what there is

    private static boolean isSlot(int number) {
        return number >= 0 && number < SLOTS;
    }

    private static boolean isPlace(int place) {
        return place >= 0 && place < CELLS;
    }

    private static boolean isTag(int number) {
        return number >= 0 && number < TAGS;
    }

    private static boolean isFile(int k) {
        return k >= 0 && k < SLOTS * FILES_EACH;
    }

    private boolean isThere(int tag) {
        return isTag(tag) && tag % TAGS_EACH < slots[tag / TAGS_EACH].counter;
    }

    /** Only for a k that isFile has let through. */
    private StoredFile fileAt(int k) {
        return slots[k / FILES_EACH].files[k % FILES_EACH];
    }

    private boolean isFileCell(int k, int i) {
        return isFile(k) && i >= 0 && i < FILE_CELLS && fileAt(k).there;
    }

    private boolean isOutput(int slot, int i) {
        return isSlot(slot) && i >= 0 && i < slots[slot].outputCount;
    }

    // ---- a turn

    private void step(Slot s) {
        if (!isPlace(s.place)) {
            s.stopBy(TRAP_NO_CELL);
            return;
        }
        int v = s.memory[s.place];
        int op = v & 31;
        int x = v >> 5;
        s.place++;
        if (op == OP_SYSTEM_CALL) {
            systemCall(s, x);
        } else if (!wantsCell(op)) {
            plainInstruction(s, op, x);
        } else if (isPlace(x)) {
            cellInstruction(s, op, x);
        } else {
            s.stopBy(TRAP_NO_CELL);
        }
    }

    private static boolean wantsCell(int op) {
        return op == 1 || op == 2 || (op >= 4 && op <= 12);
    }

    private static void plainInstruction(Slot s, int op, int x) {
        switch (op) {
            case 0:
                s.state = HALTED;
                break;
            case 3:
                s.a = x;
                break;
            case 13:
                s.place = x;
                break;
            case 14:
                if (s.a == 0) {
                    s.place = x;
                }
                break;
            case 15:
                if (s.a < 0) {
                    s.place = x;
                }
                break;
            default:
                s.stopBy(TRAP_UNKNOWN);
        }
    }

    /** Only for an x that is a place. */
    private static void cellInstruction(Slot s, int op, int x) {
        int m = s.memory[x];
        switch (op) {
            case 1:
                s.a = m;
                break;
            case 2:
                s.memory[x] = s.a;
                break;
            case 4:
            case 5:
                indirectInstruction(s, op, m);
                break;
            case 6:
                s.a = s.a + m;
                break;
            case 7:
                s.a = s.a - m;
                break;
            case 8:
                s.a = s.a * m;
                break;
            case 9:
            case 10:
                divideInstruction(s, op, m);
                break;
            case 11:
                s.a = s.a & m;
                break;
            case 12:
                s.a = s.a ^ m;
                break;
            default:
                s.stopBy(TRAP_UNKNOWN);
        }
    }

    private static void indirectInstruction(Slot s, int op, int place) {
        if (!isPlace(place)) {
            s.stopBy(TRAP_NO_CELL);
        } else if (op == 4) {
            s.a = s.memory[place];
        } else {
            s.memory[place] = s.a;
        }
    }

    private static void divideInstruction(Slot s, int op, int divisor) {
        if (divisor == 0) {
            s.stopBy(TRAP_DIVISOR);
        } else if (op == 9) {
            s.a = s.a / divisor;
        } else {
            s.a = s.a % divisor;
        }
    }

    // ---- system calls

    private void systemCall(Slot s, int call) {
        int a = s.memory[CELL_A];
        int b = s.memory[CELL_B];
        int c = s.memory[CELL_C];
        // A bad list traps whatever else the call would find.
        if ((call == CALL_CHANGE || call == CALL_CREATE) && !readList(s, a)) {
            s.stopBy(TRAP_NO_CELL);
            return;
        }
        switch (call) {
            case 0: s.a = s.newTag(); break;
            case CALL_CHANGE: s.a = s.relabel(listed); break;
            case 2: s.a = s.dropCapability(b, a); break;
            case 3: s.a = send(s, a, b, NO_CAPABILITY); break;
            case 4: s.a = pass(s, a, b, c); break;
            case 5: s.a = s.receive(); break;
            case CALL_CREATE: s.a = s.createFile(listed); break;
            case 7: s.a = read(s, a, b); break;
            case 8: s.a = write(s, a, b, c); break;
            case 9: s.a = spawn(s, a, b, c); break;
            case 10: s.a = s.addOutput(a); break;
            case 11: s.a = s.label.size; break;
            default: s.stopBy(TRAP_UNKNOWN);
        }
    }

    /** Puts the tags of the LIST at a place into listed; false where the list is none. */
    private boolean readList(Slot s, int place) {
        if (!isPlace(place)) {
            return false;
        }
        int n = s.memory[place];
        if (n < 0 || n > LABEL_MOST || place + n >= CELLS) {
            return false;
        }
        listed.clear();
        for (int i = 1; i <= n; i++) {
            listed.add(s.memory[place + i]);
        }
        return true;
    }

    /** Answers 1 whether or not the message comes anywhere: the sender is not told. */
    private int send(Slot s, int to, int value, int kind) {
        if (isSlot(to) && s.label.isIn(slots[to].label)) {
            slots[to].queue.put(s, value, kind);
        }
        return 1;
    }

    private int pass(Slot s, int to, int tag, int c) {
        int kind = kindOf(c);
        if (!s.capabilities(kind).has(tag)) {
            return 0;
        }
        return send(s, to, tag, kind);
    }

    private static int kindOf(int number) {
        return number == 0 ? PLUS : MINUS;
    }

    private int read(Slot s, int k, int i) {
        if (!isFileCell(k, i) || !fileAt(k).label.isIn(s.label)) {
            return 0;
        }
        s.memory[CELL_A] = fileAt(k).cells[i];
        return 1;
    }

    /** Answers 1 whether or not it writes: the writer is not told. */
    private int write(Slot s, int k, int i, int v) {
        if (isFileCell(k, i) && s.label.isIn(fileAt(k).label)) {
            fileAt(k).cells[i] = v;
        }
        return 1;
    }

    private int spawn(Slot s, int number, int first, int n) {
        // Slot 0 has no parent, though (0 - 1) / 2 is cut off to 0.
        if (!isSlot(number) || number == 0 || (number - 1) / 2 != s.number) {
            return 0;
        }
        // first is held against CELLS - n, as first + n could wrap.
        if (n < 1 || n > CELLS || first < 0 || first > CELLS - n) {
            return 0;
        }
        Slot child = slots[number];
        if (child.state != IDLE || !child.label.isIn(s.label)) {
            return 0;
        }
        for (int i = 0; i < n; i++) {
            child.memory[i] = s.memory[first + i];
        }
        child.label.copy(s.label);
        child.state = LIVE;
        return 1;
    }

    /** Tags 0 to 255; a word for each slot, a bit of it for each of its tags. */
    private static final class TagSet {
        private final int[] words = new int[SLOTS];
        private int size = 0;

        boolean has(int tag) {
            return tag >= 0 && tag < TAGS && (words[tag >> 5] & 1 << (tag & 31)) != 0;
        }

        /** Numbers that are no tags, and tags that are in it, are left out. */
        void add(int tag) {
            if (isTag(tag) && !has(tag)) {
                words[tag >> 5] |= 1 << (tag & 31);
                size++;
            }
        }

        void remove(int tag) {
            if (has(tag)) {
                words[tag >> 5] &= ~(1 << (tag & 31));
                size--;
            }
        }

        /** Answers the size; -1, and nothing is done, if it would have more than most. */
        int change(int tag, boolean on, int most) {
            if (!on) {
                remove(tag);
            } else if (!has(tag)) {
                if (size >= most) {
                    return -1;
                }
                add(tag);
            }
            return size;
        }

        void clear() {
            for (int i = 0; i < SLOTS; i++) {
                words[i] = 0;
            }
            size = 0;
        }

        void copy(TagSet other) {
            for (int i = 0; i < SLOTS; i++) {
                words[i] = other.words[i];
            }
            size = other.size;
        }

        boolean isIn(TagSet other) {
            return isInEither(other, other);
        }

        /** Whether each tag is in the one or in the other. */
        boolean isInEither(TagSet one, TagSet other) {
            for (int i = 0; i < SLOTS; i++) {
                if ((words[i] & ~(one.words[i] | other.words[i])) != 0) {
                    return false;
                }
            }
            return true;
        }

        /** The i-th tag, the least first; -1 if there is none such. */
        int tagAt(int i) {
            if (i < 0 || i >= size) {
                return -1;
            }
            int before = 0;
            for (int tag = 0; tag < TAGS; tag++) {
                if (has(tag)) {
                    if (before == i) {
                        return tag;
                    }
                    before++;
                }
            }
            return -1;
        }
    }

    private static final class Message {
        private final TagSet label = new TagSet();
        private int from = 0;
        private int value = 0;
        private int kind = NO_CAPABILITY;
    }

    /** A ring of messages. */
    private static final class Queue {
        private final Message[] ring = new Message[QUEUE_MOST];
        private int first = 0;
        private int size = 0;

        Queue() {
            for (int i = 0; i < QUEUE_MOST; i++) {
                ring[i] = new Message();
            }
        }

        /** The message has the sender's label as it is now; false if there is no room. */
        boolean put(Slot sender, int value, int kind) {
            if (size >= QUEUE_MOST) {
                return false;
            }
            Message m = ring[(first + size) % QUEUE_MOST];
            m.label.copy(sender.label);
            m.from = sender.number;
            m.value = value;
            m.kind = kind;
            size++;
            return true;
        }

        /** The first message whose label is in this one, those ahead of it being dropped; or null. */
        Message take(TagSet label) {
            for (int waiting = size; waiting > 0; waiting--) {
                Message m = ring[first];
                first = (first + 1) % QUEUE_MOST;
                size--;
                if (m.label.isIn(label)) {
                    return m;
                }
            }
            return null;
        }
    }

    private static final class StoredFile {
        private final TagSet label = new TagSet();
        private final int[] cells = new int[FILE_CELLS];
        // No file ever goes away: one that is not there has an empty label and cells of 0.
        private boolean there = false;
    }

    private static final class Slot {
        private final int number;
        private final int[] memory = new int[CELLS];
        private int a = 0;
        private int place = 0;
        private int state = IDLE;
        private int trap = 0;
        private int counter = 0;
        private final TagSet label = new TagSet();
        private final TagSet plus = new TagSet();
        private final TagSet minus = new TagSet();
        private final Queue queue = new Queue();
        private final StoredFile[] files = new StoredFile[FILES_EACH];
        private final int[] outputs = new int[OUTPUT_MOST];
        private final int[] outputLabelSizes = new int[OUTPUT_MOST];
        private int outputCount = 0;

        Slot(int number) {
            this.number = number;
            for (int i = 0; i < FILES_EACH; i++) {
                files[i] = new StoredFile();
            }
        }

        void stopBy(int trapNumber) {
            state = TRAPPED;
            trap = trapNumber;
        }

        TagSet capabilities(int kind) {
            return kind == PLUS ? plus : minus;
        }

        int countFiles() {
            int n = 0;
            for (int i = 0; i < FILES_EACH; i++) {
                if (files[i].there) {
                    n++;
                }
            }
            return n;
        }

        int newTag() {
            if (counter >= TAGS_EACH || plus.size >= CAPABILITY_MOST || minus.size >= CAPABILITY_MOST) {
                return -1;
            }
            int tag = TAGS_EACH * number + counter;
            counter++;
            plus.add(tag);
            minus.add(tag);
            return tag;
        }

        int relabel(TagSet next) {
            if (!next.isInEither(label, plus) || !label.isInEither(next, minus)) {
                return 0;
            }
            label.copy(next);
            return 1;
        }

        int dropCapability(int b, int tag) {
            TagSet held = capabilities(kindOf(b));
            if (!held.has(tag)) {
                return 0;
            }
            held.remove(tag);
            return 1;
        }

        int receive() {
            Message m = queue.take(label);
            if (m == null) {
                return 0;
            }
            memory[CELL_A] = m.value;
            memory[CELL_B] = m.from;
            if (m.kind == NO_CAPABILITY) {
                return 1;
            }
            capabilities(m.kind).change(m.value, true, CAPABILITY_MOST);
            return 2;
        }

        int createFile(TagSet fileLabel) {
            if (!label.isIn(fileLabel)) {
                return -1;
            }
            for (int i = 0; i < FILES_EACH; i++) {
                if (!files[i].there) {
                    files[i].there = true;
                    files[i].label.copy(fileLabel);
                    return FILES_EACH * number + i;
                }
            }
            return -1;
        }

        int addOutput(int value) {
            if (outputCount < OUTPUT_MOST) {
                outputs[outputCount] = value;
                outputLabelSizes[outputCount] = label.size;
                outputCount++;
            }
            return 1;
        }
    }
}
