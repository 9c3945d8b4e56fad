import java.util.Random;

/**
 * The document's first line: what may not flow is dropped, and nobody is told. Two worlds differ in nothing but
 * what slots and files with the tag SECRET hold and do; nobody has MINUS of it. However the slots then run, all
 * that is without this tag is the same in both worlds.
 */
public final class SecretTest {
    private static final int RUNS = 1200;
    private static final int TURNS = 2400;
    private static final int SECRET = 32 * 5;
    private static final int[] OTHER_TAGS = {1, 33, 65};
    private static final int CALLS = 7;
    private static final int LISTS_AT = 8 * CALLS + 1;

    private static int openLooks = 0;
    private static int secretsThatDiffer = 0;

    public static void main(String[] args) {
        for (int run = 0; run < RUNS; run++) {
            for (int s = 0; s < 8; s++) {
                compareSlot(run, s);
                compareCells(run, s);
                compareFiles(run, s);
            }
        }
        System.out.println(openLooks + " slots without the tag, " + secretsThatDiffer + " with it that differ");
        Checks.due("there is much to look at", openLooks > RUNS && secretsThatDiffer > RUNS, true);
        Checks.finish();
    }

    private static void compareSlot(int run, int s) {
        FlowKernel one = made(run, 1);
        FlowKernel two = made(run, 2);
        if (!bothOpen(run, one, two, s)) {
            return;
        }
        openLooks++;
        String at = "run " + run + ", slot " + s + ": ";
        for (int what = 0; what <= 10; what++) {
            Checks.due(at + "slot(.., " + what + ")", two.slot(s, what), one.slot(s, what));
        }
        for (int i = 0; i < 16; i++) {
            Checks.due(at + "label " + i, two.label(s, i), one.label(s, i));
        }
        for (int i = 0; i < 64; i++) {
            Checks.due(at + "output " + i, two.output(s, i), one.output(s, i));
            Checks.due(at + "outputTags " + i, two.outputTags(s, i), one.outputTags(s, i));
        }
    }

    private static void compareCells(int run, int s) {
        FlowKernel one = made(run, 1);
        FlowKernel two = made(run, 2);
        if (bothOpen(run, one, two, s)) {
            for (int i = 0; i < 128; i++) {
                Checks.due("run " + run + ", slot " + s + ": cell " + i, two.cell(s, i), one.cell(s, i));
            }
        } else if (one.slot(s, 3) != two.slot(s, 3) || one.cell(s, 120) != two.cell(s, 120)) {
            secretsThatDiffer++;
        }
    }

    private static void compareFiles(int run, int s) {
        FlowKernel one = made(run, 1);
        FlowKernel two = made(run, 2);
        for (int k = 8 * s; k < 8 * s + 8; k++) {
            String at = "run " + run + ", file " + k + ": ";
            if (isSecretFile(one, k) || isSecretFile(two, k)) {
                continue;
            }
            Checks.due(at + "fileTags", two.fileTags(k), one.fileTags(k));
            for (int i = 0; i < 8; i++) {
                Checks.due(at + "content " + i, two.content(k, i), one.content(k, i));
            }
        }
    }

    /** A slot without the tag in one world alone is IDLE there: in the other it was spawned with the tag. */
    private static boolean bothOpen(int run, FlowKernel one, FlowKernel two, int s) {
        boolean openInOne = isOpen(one, s);
        boolean openInTwo = isOpen(two, s);
        if (openInOne != openInTwo) {
            Checks.due("run " + run + ", slot " + s + ": IDLE", (openInOne ? one : two).slot(s, 0), 0);
        }
        return openInOne && openInTwo;
    }

    private static boolean isOpen(FlowKernel k, int s) {
        for (int i = 0; i < k.slot(s, 4); i++) {
            if (k.label(s, i) == SECRET) {
                return false;
            }
        }
        return true;
    }

    /** It gets the tag by this, if it has not got it; the same is done to both worlds only where neither has it. */
    private static boolean isSecretFile(FlowKernel k, int file) {
        int tags = k.fileTags(file);
        return tags > 0 && k.file(file, SECRET) == tags;
    }

    private static FlowKernel made(int run, int world) {
        Random open = new Random(run);
        Random hidden = new Random(31L * run + world);
        FlowKernel k = new FlowKernel();
        boolean[] secret = new boolean[8];
        for (int s = 0; s < 8; s++) {
            k.counter(s, 2);
        }
        for (int s = 0; s < 8; s++) {
            secret[s] = open.nextInt(3) == 0;
            setLabel(k, s, secret[s], open);
            setFile(k, s, open, hidden);
            setProgram(k, s, secret[s] ? hidden : open);
        }
        for (int i = 0; i < 4; i++) {
            int from = open.nextInt(8);
            k.post(from, open.nextInt(8), (secret[from] ? hidden : open).nextInt());
        }
        k.run(TURNS);
        return k;
    }

    private static void setLabel(FlowKernel k, int s, boolean secret, Random open) {
        if (secret) {
            k.tag(s, SECRET, true);
        }
        if (open.nextInt(3) == 0) {
            k.tag(s, otherTag(open), true);
        }
        k.capability(s, 0, SECRET, open.nextInt(3) == 0);
        k.capability(s, 0, otherTag(open), true);
        k.capability(s, 1, otherTag(open), true);
    }

    private static void setFile(FlowKernel k, int s, Random open, Random hidden) {
        boolean secret = open.nextBoolean();
        k.file(8 * s, secret ? SECRET : -1);
        if (open.nextInt(3) == 0) {
            k.file(8 * s, otherTag(open));
        }
        k.fill(8 * s, 0, (secret ? hidden : open).nextInt());
        k.fill(8 * s, 1, (secret ? hidden : open).nextInt());
    }

    /** System calls round and round, what was received or read being put out; and lists behind them. */
    private static void setProgram(FlowKernel k, int s, Random own) {
        int[] cells = new int[LISTS_AT + 12];
        for (int i = 0; i < CALLS; i++) {
            int call = own.nextInt(12);
            int[] abc = arguments(own, call, s);
            for (int j = 0; j < 3; j++) {
                cells[8 * i + 2 * j] = Checks.op(3, abc[j]);
                cells[8 * i + 2 * j + 1] = Checks.op(2, 120 + j);
            }
            cells[8 * i + 6] = Checks.op(16, call);
            boolean gets = call == Checks.RECEIVE || call == Checks.READ;
            cells[8 * i + 7] = gets ? Checks.op(16, Checks.OUTPUT) : Checks.op(2, 100 + i);
        }
        cells[8 * CALLS] = own.nextInt(8) == 0 ? own.nextInt() : Checks.op(13, 0);
        for (int list = 0; list < 4; list++) {
            cells[LISTS_AT + 3 * list] = own.nextInt(3);
            cells[LISTS_AT + 3 * list + 1] = own.nextInt(3) == 0 ? SECRET : otherTag(own);
            cells[LISTS_AT + 3 * list + 2] = otherTag(own);
        }
        for (int place = 0; place < cells.length; place += 3) {
            k.poke(s, place, cells[place], cells[place + 1], cells[place + 2]);
        }
        if (own.nextInt(4) != 0) {
            k.start(s);
        }
    }

    private static int[] arguments(Random own, int call, int s) {
        int value = own.nextInt(1000000);
        switch (call) {
            case Checks.CHANGE:
            case Checks.CREATE: return new int[] {LISTS_AT + 3 * own.nextInt(4), value, value};
            case Checks.DROP: return new int[] {otherTag(own), own.nextInt(2), value};
            case Checks.PASS: return new int[] {own.nextInt(8), otherTag(own), own.nextInt(2)};
            case Checks.READ:
            case Checks.WRITE: return new int[] {8 * own.nextInt(8) + own.nextInt(2), own.nextInt(2), value};
            case Checks.SPAWN: return new int[] {2 * s + 1 + own.nextInt(2), 0, LISTS_AT + own.nextInt(60)};
            default: return new int[] {own.nextInt(8), value, value};
        }
    }

    private static int otherTag(Random random) {
        return OTHER_TAGS[random.nextInt(OTHER_TAGS.length)];
    }
}
