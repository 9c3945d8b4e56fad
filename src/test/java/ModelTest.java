import java.util.ArrayDeque;
import java.util.ArrayList;
import java.util.Arrays;
import java.util.List;
import java.util.Random;
import java.util.TreeMap;
import java.util.TreeSet;

/**
 * Long mixed runs of calls, the same for every run of the test, against a second model of the document. Each
 * object has at most 512 calls, as no more are promised; so a run looks at a part of all that is left behind.
 */
public final class ModelTest {
    private static final int RUNS = 6000;
    private static final int PROGRAMS = 5;
    private static final int CALLS = 120;
    private static final int LOOKS = 42;
    private static final int[] ODD = {-1, 8, 7, 64, 63, 127, 128, 125, 126, 255, 256, 32, 33, 16, 17, 5000, 5001,
        Integer.MIN_VALUE, Integer.MAX_VALUE, 0, 1, 2};

    public static void main(String[] args) {
        int[] reached = new int[12];
        for (int run = 0; run < RUNS; run++) {
            compareRun(run, reached);
        }
        System.out.println("system calls that did their deed: " + Arrays.toString(reached));
        for (int call = 0; call < 12; call++) {
            Checks.due("system call " + call + " did its deed often", reached[call] > 500, true);
        }
        Checks.finish();
    }

    private static void compareRun(int run, int[] reached) {
        Random random = new Random(run);
        FlowKernel real = new FlowKernel();
        Model model = new Model(reached);
        prepare(run, random, real, model);
        for (int i = 0; i < CALLS; i++) {
            oneCall("run " + run + ", call " + i + ": ", random, real, model);
        }
        compareSlots("run " + run + ", end: ", real, model);
        for (int i = 0; i < LOOKS; i++) {
            oneLook("run " + run + ", end: ", random, real, model);
        }
    }

    private static void prepare(int run, Random random, FlowKernel real, Model model) {
        for (int s = 0; s < 8; s++) {
            int n = random.nextInt(4) == 0 ? 32 : random.nextInt(6);
            Checks.due("counter", real.counter(s, n), model.counter(s, n));
            boolean hasProgram = (run + s) % 8 < PROGRAMS;
            int[] cells = random.nextInt(3) == 0 ? mixedProgram(random) : callProgram(random, s);
            for (int place = 0; hasProgram && place < 111; place += 3) {
                int p = cells[place], q = cells[place + 1], r = cells[place + 2];
                Checks.due("poke", real.poke(s, place, p, q, r), model.poke(s, place, p, q, r));
            }
            if (random.nextBoolean()) {
                Checks.due("start", real.start(s), model.start(s));
            }
        }
        if (random.nextInt(3) == 0) {
            int s = random.nextInt(8);
            for (int i = 0; i < 60; i++) {
                int kind = random.nextInt(2), t = random.nextInt(256);
                Checks.due("capability", real.capability(s, kind, t, true), model.capability(s, kind, t, true));
            }
        }
    }

    private static int[] mixedProgram(Random random) {
        int[] cells = new int[111];
        for (int i = 0; i < 90; i++) {
            cells[i] = instruction(random);
        }
        return cells;
    }

    /** Twelve system calls with arguments that suit them, round and round, and lists behind them. */
    private static int[] callProgram(Random random, int slot) {
        int[] cells = new int[111];
        for (int i = 0; i < 12; i++) {
            int call = random.nextInt(12);
            int[] abc = arguments(random, call, slot);
            for (int j = 0; j < 3; j++) {
                cells[7 * i + 2 * j] = Checks.op(3, abc[j]);
                cells[7 * i + 2 * j + 1] = Checks.op(2, 120 + j);
            }
            cells[7 * i + 6] = Checks.op(16, call);
        }
        cells[84] = Checks.op(13, 0);
        for (int i = 90; i < 111; i += 3) {
            cells[i] = random.nextInt(12) == 0 ? random.nextInt(19) - 1 : random.nextInt(3);
            cells[i + 1] = someTag(random);
            cells[i + 2] = 32 * slot + random.nextInt(3);
        }
        return cells;
    }

    private static int[] arguments(Random random, int call, int slot) {
        int near = 32 * random.nextInt(8) + random.nextInt(3);
        int own = random.nextBoolean() ? 32 * slot + random.nextInt(4) : near;
        switch (call) {
            case 1:
            case 6: return new int[] {random.nextInt(50) == 0 ? small(random) : 90 + 3 * random.nextInt(7), 0, 0};
            case 2: return new int[] {own, random.nextInt(3) - 1, 0};
            case 4: return new int[] {some(random, 8), own, random.nextInt(3) - 1};
            case 7:
            case 8: return new int[] {8 * random.nextInt(8) + random.nextInt(3), some(random, 8), random.nextInt(1000)};
            case 9: return new int[] {2 * slot + 1 + random.nextInt(2), random.nextInt(4), some(random, 126)};
            default: return new int[] {some(random, 8), small(random), small(random)};
        }
    }

    /** Mostly such as keep a program going: values into cells 120 to 122 and lists, then system calls. */
    private static int instruction(Random random) {
        switch (random.nextInt(8)) {
            case 0:
            case 1:
                return Checks.op(16, random.nextInt(40) == 0 ? 12 : random.nextInt(12));
            case 2:
            case 3:
                return Checks.op(2, 120 + random.nextInt(3));
            case 4:
                return Checks.op(3, small(random));
            case 5:
                return Checks.op(3, random.nextInt(8));
            case 6:
                return Checks.op(1 + random.nextInt(12), 90 + random.nextInt(38));
            default:
                return random.nextInt(20) == 0 ? random.nextInt() : Checks.op(13 + random.nextInt(3), random.nextInt(90));
        }
    }

    private static int small(Random random) {
        switch (random.nextInt(6)) {
            case 0: return random.nextInt(256);
            case 1: return 90 + random.nextInt(30);
            case 2: return random.nextInt(64);
            case 3: return random.nextInt(8) * 32 + random.nextInt(4);
            case 4: return random.nextInt(5) - 1;
            default: return random.nextInt(10);
        }
    }

    private static int some(Random random, int below) {
        return random.nextInt(30) == 0 ? ODD[random.nextInt(ODD.length)] : random.nextInt(below);
    }

    private static int someTag(Random random) {
        return random.nextInt(3) == 0 ? some(random, 256) : random.nextInt(8) * 32 + random.nextInt(5);
    }

    private static void oneCall(String at, Random r, FlowKernel real, Model model) {
        int s = some(r, 8), t = someTag(r), f = some(r, 64), v = small(r), x = some(r, 8);
        boolean on = r.nextInt(3) != 0;
        switch (r.nextInt(20)) {
            case 0: {
                int place = some(r, 128), p = instruction(r), q = instruction(r), u = instruction(r);
                Checks.due(at + "poke", real.poke(s, place, p, q, u), model.poke(s, place, p, q, u));
                break;
            }
            case 1: {
                int place = 90 + r.nextInt(20), n = r.nextInt(3);
                Checks.due(at + "poke", real.poke(s, place, n, t, v), model.poke(s, place, n, t, v));
                break;
            }
            case 2: Checks.due(at + "start", real.start(s), model.start(s)); break;
            case 3: {
                int n = some(r, 34);
                Checks.due(at + "counter", real.counter(s, n), model.counter(s, n));
                break;
            }
            case 4: Checks.due(at + "tag", real.tag(s, t, on), model.tag(s, t, on)); break;
            case 5:
            case 6: {
                int kind = some(r, 2);
                Checks.due(at + "capability", real.capability(s, kind, t, on), model.capability(s, kind, t, on));
                break;
            }
            case 7: {
                int wanted = on ? t : -t;
                Checks.due(at + "file", real.file(f, wanted), model.file(f, wanted));
                break;
            }
            case 8: Checks.due(at + "fill", real.fill(f, x, v), model.fill(f, x, v)); break;
            case 9: Checks.due(at + "post", real.post(s, x, v), model.post(s, x, v)); break;
            case 10:
            case 11: {
                int n = some(r, 300);
                Checks.due(at + "run", real.run(n), model.run(n));
                break;
            }
            case 12: {
                int place = some(r, 128);
                Checks.due(at + "cell", real.cell(s, place), model.cell(s, place));
                break;
            }
            case 13: Checks.due(at + "slot", real.slot(s, x), model.slot(s, x)); break;
            case 14: Checks.due(at + "label", real.label(s, x), model.label(s, x)); break;
            case 15: Checks.due(at + "output", real.output(s, v), model.output(s, v)); break;
            case 16: Checks.due(at + "outputTags", real.outputTags(s, v), model.outputTags(s, v)); break;
            case 17: Checks.due(at + "content", real.content(f, x), model.content(f, x)); break;
            case 18: Checks.due(at + "fileTags", real.fileTags(f), model.fileTags(f)); break;
            default: Checks.due(at + "mayFlow", real.mayFlow(s, x), model.mayFlow(s, x));
        }
    }

    private static void compareSlots(String at, FlowKernel real, Model model) {
        for (int s = 0; s < 8; s++) {
            for (int what = 0; what <= 10; what++) {
                Checks.due(at + "slot(" + s + ", " + what + ")", real.slot(s, what), model.slot(s, what));
            }
        }
    }

    private static void oneLook(String at, Random random, FlowKernel real, Model model) {
        int s = random.nextInt(8), other = random.nextInt(8), file = 8 * s + random.nextInt(8);
        int place = random.nextInt(128), nth = random.nextInt(random.nextBoolean() ? 6 : 65);
        switch (random.nextInt(7)) {
            case 0: Checks.due(at + "cell(" + s + ", " + place + ")", real.cell(s, place), model.cell(s, place)); break;
            case 1: Checks.due(at + "label(" + s + ", " + nth + ")", real.label(s, nth), model.label(s, nth)); break;
            case 2: Checks.due(at + "output(" + s + ", " + nth + ")", real.output(s, nth), model.output(s, nth)); break;
            case 3: Checks.due(at + "outputTags", real.outputTags(s, nth), model.outputTags(s, nth)); break;
            case 4: Checks.due(at + "content", real.content(file, other), model.content(file, other)); break;
            case 5: Checks.due(at + "fileTags(" + file + ")", real.fileTags(file), model.fileTags(file)); break;
            default: Checks.due(at + "mayFlow", real.mayFlow(s, other), model.mayFlow(s, other));
        }
    }

    private record Note(TreeSet<Integer> label, int from, int value, int kind) {
    }

    private static final class Trap extends RuntimeException {
        private static final long serialVersionUID = 1L;
        private final int number;

        Trap(int number) {
            super(null, null, false, false);
            this.number = number;
        }
    }

    private static final class Box {
        TreeSet<Integer> label = new TreeSet<>();
        final int[] cells = new int[8];
    }

    private static final class Unit {
        final int[] memory = new int[128];
        int a, place, state, trap, counter;
        TreeSet<Integer> label = new TreeSet<>();
        final List<TreeSet<Integer>> held = List.of(new TreeSet<>(), new TreeSet<>());
        final ArrayDeque<Note> queue = new ArrayDeque<>();
        final List<int[]> outputs = new ArrayList<>();

        int at(int place) {
            if (place < 0 || place > 127) {
                throw new Trap(2);
            }
            return memory[place];
        }

        void put(int place, int v) {
            at(place);
            memory[place] = v;
        }

        TreeSet<Integer> list(int place) {
            int n = at(place);
            if (n < 0 || n > 16) {
                throw new Trap(2);
            }
            TreeSet<Integer> tags = new TreeSet<>();
            for (int i = 1; i <= n; i++) {
                int t = at(place + i);
                if (t >= 0 && t <= 255) {
                    tags.add(t);
                }
            }
            return tags;
        }
    }

    private static final class Model {
        private final Unit[] units = new Unit[8];
        private final TreeMap<Integer, Box> files = new TreeMap<>();
        private final int[] reached;
        private int turns = 0;

        Model(int[] reached) {
            this.reached = reached;
            for (int i = 0; i < 8; i++) {
                units[i] = new Unit();
            }
        }

        private Unit unit(int s) {
            return s >= 0 && s <= 7 ? units[s] : null;
        }

        private boolean there(int t) {
            return t >= 0 && t <= 255 && units[t / 32].counter > t % 32;
        }

        private static int alter(TreeSet<Integer> set, int t, boolean on, int most) {
            TreeSet<Integer> next = new TreeSet<>(set);
            if (on) {
                next.add(t);
            } else {
                next.remove(t);
            }
            if (next.size() > most) {
                return -1;
            }
            set.clear();
            set.addAll(next);
            return set.size();
        }

        int poke(int s, int place, int p, int q, int r) {
            if (unit(s) == null || place < 0 || (long) place + 2 > 127) {
                return -1;
            }
            int[] three = {p, q, r};
            System.arraycopy(three, 0, units[s].memory, place, 3);
            return 1;
        }

        int start(int s) {
            if (unit(s) == null || units[s].state != 0) {
                return -1;
            }
            units[s].state = 1;
            return 1;
        }

        int counter(int s, int n) {
            if (unit(s) == null || n < 0 || n > 32) {
                return -1;
            }
            int was = units[s].counter;
            units[s].counter = Math.max(n, was);
            return n < was ? -2 : was;
        }

        int tag(int s, int t, boolean on) {
            return unit(s) == null || !there(t) ? -1 : alter(units[s].label, t, on, 16);
        }

        int capability(int s, int kind, int t, boolean on) {
            return unit(s) == null || kind < 0 || kind > 1 || !there(t) ? -1 : alter(units[s].held.get(kind), t, on, 40);
        }

        int file(int k, int t) {
            if (k < 0 || k > 63 || (t >= 0 && !there(t))) {
                return -1;
            }
            Box box = files.computeIfAbsent(k, none -> new Box());
            return t < 0 ? box.label.size() : alter(box.label, t, true, 16);
        }

        int fill(int k, int i, int v) {
            int was = content(k, i);
            if (files.containsKey(k) && i >= 0 && i <= 7) {
                files.get(k).cells[i] = v;
            }
            return was;
        }

        int post(int from, int to, int value) {
            if (unit(from) == null || unit(to) == null || units[to].queue.size() == 8) {
                return -1;
            }
            units[to].queue.add(new Note(new TreeSet<>(units[from].label), from, value, -1));
            return units[to].queue.size();
        }

        int run(int n) {
            if (n < 0 || n > 5000) {
                return -1;
            }
            for (int i = 0; i < n; i++) {
                int s = turns++ % 8;
                if (units[s].state == 1) {
                    try {
                        instruction(s, units[s]);
                    } catch (Trap trap) {
                        units[s].state = 3;
                        units[s].trap = trap.number;
                    }
                }
            }
            return turns;
        }

        private void instruction(int s, Unit u) {
            int v = u.at(u.place);
            int op = Math.floorMod(v, 32);
            int x = (int) (((long) v - op) / 32);
            u.place += 1;
            switch (op) {
                case 0 -> u.state = 2;
                case 1 -> u.a = u.at(x);
                case 2 -> u.put(x, u.a);
                case 3 -> u.a = x;
                case 4 -> u.a = u.at(u.at(x));
                case 5 -> u.put(u.at(x), u.a);
                case 6 -> u.a += u.at(x);
                case 7 -> u.a -= u.at(x);
                case 8 -> u.a *= u.at(x);
                case 9, 10 -> {
                    long m = u.at(x);
                    if (m == 0) {
                        throw new Trap(3);
                    }
                    u.a = (int) (op == 9 ? u.a / m : u.a % m);
                }
                case 11 -> u.a &= u.at(x);
                case 12 -> u.a ^= u.at(x);
                case 13 -> u.place = x;
                case 14 -> u.place = u.a == 0 ? x : u.place;
                case 15 -> u.place = u.a < 0 ? x : u.place;
                case 16 -> {
                    u.a = system(s, u, x, u.memory[120], u.memory[121], u.memory[122]);
                    boolean silent = x == 3 || x == 8 || x == 10 || x == 11;
                    reached[x] += !silent && u.a <= 0 && !(x == 0 && u.a == 0) && !(x == 6 && u.a == 0) ? 0 : 1;
                }
                default -> throw new Trap(1);
            }
        }

        private int system(int s, Unit u, int call, int a, int b, int c) {
            switch (call) {
                case 0: {
                    if (u.counter == 32 || u.held.get(0).size() == 40 || u.held.get(1).size() == 40) {
                        return -1;
                    }
                    int t = 32 * s + u.counter++;
                    u.held.get(0).add(t);
                    u.held.get(1).add(t);
                    return t;
                }
                case 1: {
                    TreeSet<Integer> next = u.list(a);
                    for (int t = 0; t < 256; t++) {
                        boolean comes = next.contains(t) && !u.label.contains(t);
                        boolean goes = !next.contains(t) && u.label.contains(t);
                        if ((comes && !u.held.get(0).contains(t)) || (goes && !u.held.get(1).contains(t))) {
                            return 0;
                        }
                    }
                    u.label = next;
                    return 1;
                }
                case 2:
                    return u.held.get(b == 0 ? 0 : 1).remove(a) ? 1 : 0;
                case 3:
                    return deliver(u, a, new Note(new TreeSet<>(u.label), s, b, -1));
                case 4: {
                    int kind = c == 0 ? 0 : 1;
                    boolean has = u.held.get(kind).contains(b);
                    return has ? deliver(u, a, new Note(new TreeSet<>(u.label), s, b, kind)) : 0;
                }
                case 5:
                    return receive(u);
                case 6:
                    return create(s, u, u.list(a));
                case 7: {
                    Box box = files.get(a);
                    if (box == null || b < 0 || b > 7 || !u.label.containsAll(box.label)) {
                        return 0;
                    }
                    u.memory[120] = box.cells[b];
                    return 1;
                }
                case 8: {
                    Box box = files.get(a);
                    if (box != null && b >= 0 && b <= 7 && box.label.containsAll(u.label)) {
                        box.cells[b] = c;
                    }
                    return 1;
                }
                case 9:
                    return spawn(s, u, a, b, c);
                case 10:
                    if (u.outputs.size() < 64) {
                        u.outputs.add(new int[] {a, u.label.size()});
                    }
                    return 1;
                case 11:
                    return u.label.size();
                default:
                    throw new Trap(1);
            }
        }

        private int deliver(Unit from, int to, Note note) {
            Unit u = unit(to);
            if (u != null && u.label.containsAll(from.label) && u.queue.size() < 8) {
                u.queue.add(note);
            }
            return 1;
        }

        private static int receive(Unit u) {
            while (!u.queue.isEmpty() && !u.label.containsAll(u.queue.peek().label())) {
                u.queue.remove();
            }
            Note note = u.queue.poll();
            if (note == null) {
                return 0;
            }
            u.memory[120] = note.value();
            u.memory[121] = note.from();
            if (note.kind() < 0) {
                return 1;
            }
            alter(u.held.get(note.kind()), note.value(), true, 40);
            return 2;
        }

        private int create(int s, Unit u, TreeSet<Integer> label) {
            int k = 8 * s;
            while (files.containsKey(k)) {
                k++;
            }
            if (k >= 8 * s + 8 || !label.containsAll(u.label)) {
                // The first gap may lie with the next slot: then all of this one's are there.
                return -1;
            }
            Box box = new Box();
            box.label = label;
            files.put(k, box);
            return k;
        }

        private int spawn(int s, Unit u, int a, int b, int c) {
            boolean child = a == 2 * s + 1 || a == 2 * s + 2;
            if (!child || unit(a) == null || units[a].state != 0 || !u.label.containsAll(units[a].label)) {
                return 0;
            }
            if (c < 1 || c > 128 || b < 0 || (long) b + c - 1 > 127) {
                return 0;
            }
            System.arraycopy(u.memory, b, units[a].memory, 0, c);
            units[a].label = new TreeSet<>(u.label);
            units[a].state = 1;
            return 1;
        }

        int cell(int s, int place) {
            return unit(s) == null || place < 0 || place > 127 ? 0 : units[s].memory[place];
        }

        int slot(int s, int what) {
            Unit u = unit(s);
            if (u == null || what < 0 || what > 10) {
                return -1;
            }
            int count = files.subMap(8 * s, 8 * s + 8).size();
            int[] all = {u.state, u.trap, u.a, u.place, u.label.size(), u.counter, u.held.get(0).size(),
                u.held.get(1).size(), u.queue.size(), count, u.outputs.size()};
            return all[what];
        }

        int label(int s, int i) {
            Unit u = unit(s);
            return u == null || i < 0 || i >= u.label.size() ? -1 : new ArrayList<>(u.label).get(i);
        }

        int output(int s, int i) {
            Unit u = unit(s);
            return u == null || i < 0 || i >= u.outputs.size() ? 0 : u.outputs.get(i)[0];
        }

        int outputTags(int s, int i) {
            Unit u = unit(s);
            return u == null || i < 0 || i >= u.outputs.size() ? -1 : u.outputs.get(i)[1];
        }

        int content(int k, int i) {
            return !files.containsKey(k) || i < 0 || i > 7 ? 0 : files.get(k).cells[i];
        }

        int fileTags(int k) {
            return files.containsKey(k) ? files.get(k).label.size() : -1;
        }

        boolean mayFlow(int from, int to) {
            return unit(from) != null && unit(to) != null && units[to].label.containsAll(units[from].label);
        }
    }
}
