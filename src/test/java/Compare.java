import java.util.List;

/** Holds all answers of a loom against the models. */
final class Compare {
    private final Checks checks;
    private final FiberLoom loom;
    private final Model model;

    Compare(Checks checks, FiberLoom loom, Model model) {
        this.checks = checks;
        this.loom = loom;
        this.model = model;
    }

    private void due(String what, long got, long want) {
        checks.due(what, got, want);
    }

    void methods() {
        for (int m = 0; m < model.codes.length; m++) {
            Code code = model.codes[m];
            int[] wants = {code.params, code.types, code.result, code.slots, code.list.size(),
                code.handlers.size(), model.suspendable[m] ? 1 : 0, model.rows.get(m).size(), model.sites[m]};
            for (int what = 0; what < wants.length; what++) {
                due("method(" + m + ", " + what + ")", loom.method(m, what), wants[what]);
            }
            for (int i = 0; i < code.list.size(); i++) {
                instruction(m, i);
            }
            List<int[]> rows = model.rows.get(m);
            for (int r = 0; r < rows.size(); r++) {
                due("row(" + m + ", " + r + ", 0)", loom.row(m, r, 0), rows.get(r)[0]);
                due("row(" + m + ", " + r + ", 1)", loom.row(m, r, 1), rows.get(r)[1]);
            }
            due("row behind all of " + m, loom.row(m, rows.size(), 0), -1);
        }
    }

    private int type(String name) {
        return name.equals("N") ? 1 : name.equals("R") ? 2 : 0;
    }

    private void instruction(int m, int i) {
        String at = "instruction(" + m + ", " + i + ", ";
        Model.State state = model.states[m][i];
        due(at + "0)", loom.instruction(m, i, 0), model.op(m, i));
        due(at + "1)", loom.instruction(m, i, 1), model.told(m, i));
        due(at + "2)", loom.instruction(m, i, 2), state == null ? 0 : 1);
        due(at + "3)", loom.instruction(m, i, 3), model.spends(m, i) ? 1 : 0);
        due(at + "4)", loom.instruction(m, i, 4), state == null ? -1 : state.stack.size());
        for (int k = 0; k < 14; k++) {
            boolean slot = state != null && k < model.codes[m].slots;
            boolean on = state != null && k < state.stack.size();
            due(at + (10 + k) + ")", loom.instruction(m, i, 10 + k), slot ? type(state.slots[k]) : -1);
            due(at + (30 + k) + ")", loom.instruction(m, i, 30 + k), slot ? model.live[m][i][k] ? 1 : 0 : -1);
            due(at + (50 + k) + ")", loom.instruction(m, i, 50 + k), on ? type(state.stack.get(k)) : -1);
        }
    }

    void world(int w, ModelWorld world) {
        int steps = 0;
        for (ModelWorld.Strand one : world.strands) {
            fiber(w, world, one);
            steps += one.steps;
        }
        due("fiber behind all", loom.fiber(w, world.strands.size(), 0), -1);
        for (int o = 1; o <= world.things.size(); o++) {
            thing(w, o, world.things.get(o - 1));
        }
        due("object behind all", loom.object(w, world.things.size() + 1, 8), 0);
        for (int i = 0; i < Math.min(500, world.output.size()); i++) {
            due("output(" + w + ", " + i + ")", loom.output(w, i), world.output.get(i));
        }
        due("output behind all", loom.output(w, Math.min(500, world.output.size())), 0);
        int[] wants = {world.time, world.strands.size(), world.things.size(), world.output.size(),
            world.ready.size(), world.mostSteps, steps, world.rowsDone, world.ringed()};
        for (int what = 0; what < wants.length; what++) {
            due("about(" + w + ", " + what + ")", loom.about(w, what), wants[what]);
        }
        for (int k = 0; k < world.ready.size(); k++) {
            due("about(" + w + ", " + (20 + k) + ")", loom.about(w, 20 + k), world.ready.get(k).number);
        }
        due("about behind all", loom.about(w, 20 + world.ready.size()), -1);
    }

    private void fiber(int w, ModelWorld world, ModelWorld.Strand one) {
        List<ModelWorld.Frame> frames = world.framesOf(one);
        int[] wants = {one.state, one.how, one.outcome, one.steps, frames.size(), one.killed ? 1 : 0,
            one.passing ? 1 : 0, one.self, one.sleeps, one.wants};
        for (int what = 0; what < wants.length; what++) {
            due("fiber(" + w + ", " + one.number + ", " + what + ")", loom.fiber(w, one.number, what), wants[what]);
        }
        for (int k = 0; k < frames.size(); k++) {
            frame(w, one.number, k, frames.get(k));
        }
        due("frame behind all", loom.frame(w, one.number, frames.size(), 0), 0);
        if (w == 1) {
            packed(one.number, 0, one.sites);
            packed(one.number, 1, one.numbers);
            packed(one.number, 2, one.refs);
        }
    }

    private void frame(int w, int f, int k, ModelWorld.Frame frame) {
        String at = "frame(" + w + ", " + f + ", " + k + ", ";
        due(at + "0)", loom.frame(w, f, k, 0), frame.method);
        due(at + "1)", loom.frame(w, f, k, 1), frame.pc);
        due(at + "2)", loom.frame(w, f, k, 2), frame.stack.size());
        for (int v = 0; v < 14; v++) {
            boolean live = v < model.codes[frame.method].slots && model.live[frame.method][frame.pc][v];
            due(at + (10 + v) + ")", loom.frame(w, f, k, 10 + v), live ? frame.slots[v] : 0);
            boolean on = v < frame.stack.size();
            due(at + (30 + v) + ")", loom.frame(w, f, k, 30 + v), on ? frame.stack.get(v) : 0);
        }
    }

    private void packed(int f, int which, List<Integer> wants) {
        String at = "packed(" + f + ", " + which + ", ";
        due(at + "-1)", loom.packed(f, which, -1), wants.size());
        for (int k = 0; k < wants.size(); k++) {
            due(at + k + ")", loom.packed(f, which, k), wants.get(k));
        }
        due(at + "behind all)", loom.packed(f, which, wants.size()), 0);
    }

    private void thing(int w, int o, ModelWorld.Thing thing) {
        String at = "object(" + w + ", " + o + ", ";
        for (int k = 0; k < 8; k++) {
            due(at + k + ")", loom.object(w, o, k), thing.fields[k]);
        }
        due(at + "8)", loom.object(w, o, 8), thing.owner == null ? -1 : thing.owner.number);
        due(at + "9)", loom.object(w, o, 9), thing.count);
        due(at + "10)", loom.object(w, o, 10), thing.queue.size());
        due(at + "11)", loom.object(w, o, 11), thing.waiters.size());
        for (int k = 0; k < thing.queue.size(); k++) {
            due(at + (20 + k) + ")", loom.object(w, o, 20 + k), thing.queue.get(k).number);
        }
        for (int k = 0; k < thing.waiters.size(); k++) {
            due(at + (50 + k) + ")", loom.object(w, o, 50 + k), thing.waiters.get(k).number);
        }
    }
}
