import java.util.ArrayList;
import java.util.List;
import java.util.function.Consumer;
import java.util.function.ToIntFunction;

/**
 * Compares all that two runs of calls leave behind: what can be seen, which capabilities the slots have, and
 * which messages wait. Each part is looked at on an object of its own, on which the calls are made again, as
 * nothing is promised of an object after its 512th call.
 */
final class Scene {
    private static final int LOOKS_EACH = 256;
    private static final List<View> VIEWS = views();

    private record View(String name, ToIntFunction<FlowKernel> look) {
    }

    private Scene() {
    }

    /** The call answers as due, and what was there before is there still. */
    static void refused(String what, Consumer<FlowKernel> before, ToIntFunction<FlowKernel> call, int due) {
        Checks.due(what, call.applyAsInt(made(before)), due);
        same(what, before, k -> {
            before.accept(k);
            call.applyAsInt(k);
        });
    }

    /** The calls, and then a, b and c of a system call are in their cells. */
    static Consumer<FlowKernel> with(Consumer<FlowKernel> before, int slot, int a, int b, int c) {
        return k -> {
            before.accept(k);
            k.poke(slot, 120, a, b, c);
        };
    }

    /** The system call of a spinning slot gives A the answer, and nothing else is done. */
    static void answersAlone(String what, Consumer<FlowKernel> before, int slot, int call, int answer) {
        FlowKernel k = made(before);
        Checks.drive(k, slot, Checks.op(16, call));
        Checks.due(what, k.slot(slot, 2), answer);
        same(what, driven(before, slot, Checks.op(3, answer)), driven(before, slot, Checks.op(16, call)));
    }

    /** The instruction of a spinning slot is a TRAP, and nothing else is done but that PLACE is one more. */
    static void trapsAlone(String what, Consumer<FlowKernel> before, int slot, int instruction, int trap) {
        FlowKernel k = made(before);
        int a = k.slot(slot, 2);
        int place = k.slot(slot, 3);
        Checks.drive(k, slot, instruction);
        Checks.due(what + ": TRAPPED", k.slot(slot, 0), 3);
        Checks.due(what + ": TRAP", k.slot(slot, 1), trap);
        Checks.due(what + ": A", k.slot(slot, 2), a);
        Checks.due(what + ": PLACE", k.slot(slot, 3), place + 1);
        int[] sameTraps = {Checks.op(31, 0), Checks.op(1, -1), Checks.op(9, 119)};
        same(what, driven(before, slot, sameTraps[trap - 1]), driven(before, slot, instruction));
    }

    /** The calls and the instruction of a spinning slot, whose cell is 0 behind it, so that it can't be told. */
    private static Consumer<FlowKernel> driven(Consumer<FlowKernel> before, int slot, int instruction) {
        return k -> {
            before.accept(k);
            Checks.drive(k, slot, instruction);
            int place = k.slot(slot, 3);
            k.poke(slot, place - 1, 0, Checks.op(13, place), 0);
        };
    }

    static void same(String what, Consumer<FlowKernel> one, Consumer<FlowKernel> other) {
        sameViews(what, one, other);
        for (int s = 0; s < 8; s++) {
            sameCapabilities(what, made(one), made(other), s, 0);
            sameCapabilities(what, made(one), made(other), s, 1);
            sameMessages(what, made(one), made(other), s);
            sameMessages(what + ", with tags", withTags(made(one), s), withTags(made(other), s), s);
        }
    }

    private static FlowKernel made(Consumer<FlowKernel> calls) {
        FlowKernel k = new FlowKernel();
        calls.accept(k);
        return k;
    }

    private static void sameViews(String what, Consumer<FlowKernel> one, Consumer<FlowKernel> other) {
        for (int first = 0; first < VIEWS.size(); first += LOOKS_EACH) {
            FlowKernel a = made(one);
            FlowKernel b = made(other);
            for (View view : VIEWS.subList(first, Math.min(first + LOOKS_EACH, VIEWS.size()))) {
                int want = view.look().applyAsInt(a);
                Checks.due(what + ", then " + view.name(), view.look().applyAsInt(b), want);
            }
        }
    }

    /** Takes the capabilities away one by one: how many are left tells which ones were there. */
    private static void sameCapabilities(String what, FlowKernel a, FlowKernel b, int slot, int kind) {
        for (int tag = 0; tag < 256; tag++) {
            int want = a.capability(slot, kind, tag, false);
            Checks.due(what + ", then capability " + tag, b.capability(slot, kind, tag, false), want);
        }
    }

    /** Receives all that waits, if the slot can do something yet. */
    private static void sameMessages(String what, FlowKernel a, FlowKernel b, int slot) {
        if (a.slot(slot, 0) > 1) {
            return;
        }
        if (a.slot(slot, 0) == 0) {
            Checks.spin(a, slot);
            Checks.spin(b, slot);
        }
        for (int i = 0; i < 9; i++) {
            int want = Checks.call(a, slot, Checks.RECEIVE, -7, -8, -9);
            String then = what + ", then message " + i + " of slot " + slot;
            Checks.due(then, Checks.call(b, slot, Checks.RECEIVE, -7, -8, -9), want);
            Checks.due(then + ": value", b.cell(slot, 120), a.cell(slot, 120));
            Checks.due(then + ": sender", b.cell(slot, 121), a.cell(slot, 121));
            for (int count = 6; count <= 8; count++) {
                Checks.due(then + ": slot(.., " + count + ")", b.slot(slot, count), a.slot(slot, count));
            }
        }
    }

    /** With as many of the tags 0 to 15 as there is room for, it may receive more. */
    private static FlowKernel withTags(FlowKernel k, int slot) {
        for (int tag = 0; tag < 16; tag++) {
            k.tag(slot, tag, true);
        }
        return k;
    }

    private static List<View> views() {
        List<View> all = new ArrayList<>();
        all.add(new View("run(0)", k -> k.run(0)));
        for (int s = 0; s < 8; s++) {
            addViewsOfSlot(all, s);
        }
        for (int f = 0; f < 64; f++) {
            int file = f;
            all.add(new View("fileTags(" + f + ")", k -> k.fileTags(file)));
            for (int i = 0; i < 8; i++) {
                int cell = i;
                all.add(new View("content(" + f + ", " + i + ")", k -> k.content(file, cell)));
            }
        }
        return all;
    }

    private static void addViewsOfSlot(List<View> all, int s) {
        for (int i = 0; i < 128; i++) {
            int n = i;
            String at = "(" + s + ", " + i + ")";
            all.add(new View("cell" + at, k -> k.cell(s, n)));
            if (i <= 10) {
                all.add(new View("slot" + at, k -> k.slot(s, n)));
            }
            if (i <= 16) {
                all.add(new View("label" + at, k -> k.label(s, n)));
            }
            if (i <= 64) {
                all.add(new View("output" + at, k -> k.output(s, n)));
                all.add(new View("outputTags" + at, k -> k.outputTags(s, n)));
            }
            if (i < 8) {
                all.add(new View("mayFlow" + at, k -> k.mayFlow(s, n) ? 1 : 0));
            }
        }
    }

    /** Something of everything: slots 0 to 3 spin, 4 is HALTED, 5 is TRAPPED, 6 and 7 are IDLE. */
    static void busy(FlowKernel k) {
        for (int s = 0; s < 8; s++) {
            k.counter(s, 8 + s);
            k.poke(s, 66, 100 + s, -s, Integer.MIN_VALUE + s);
            k.poke(s, 125, 200 + s, Integer.MAX_VALUE - s, 300 + s);
        }
        for (int s = 0; s < 8; s++) {
            k.capability(s, 0, 32 * s, true);
            k.capability(s, 1, 32 * s + 1, true);
            k.capability(s, 1, s, true);
            k.tag(s, s, true);
            k.file(8 * s + s, s);
            k.fill(8 * s + s, 7, 400 + s);
            k.fill(8 * s + s, 0, -400 - s);
            k.post(7 - s, s, 500 + s);
            k.post(s, s, 600 + s);
        }
        k.poke(5, 0, 31, 0, 0);
        for (int s = 0; s < 6; s++) {
            if (s < 4) {
                Checks.spin(k, s);
            } else {
                k.start(s);
            }
        }
        k.run(8);
        Checks.call(k, 0, Checks.OUTPUT, 700, 0, 0);
        Checks.drive(k, 0, Checks.op(3, 77));
        Checks.drive(k, 1, Checks.op(3, -78));
    }
}
