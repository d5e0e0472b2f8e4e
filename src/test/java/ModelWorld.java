import java.util.ArrayList;
import java.util.List;

/** The document's PART 3 once more, written from its words with lists and plain rows. */
final class ModelWorld {
    static final class Frame {
        int method;
        int pc;
        List<Integer> stack = new ArrayList<>();
        int[] slots = new int[12];
        int eachNext;
        int eachEnd;

        Frame(int method) {
            this.method = method;
        }
    }

    static final class Strand {
        int number;
        int self;
        int first;
        int[] params;
        boolean fresh = true;
        int state;
        int how;
        int outcome;
        int steps;
        boolean killed;
        int killedAgo;
        boolean passing;
        int sleeps;
        int wants = -1;
        boolean byLock;
        int count;
        boolean killedWaiting;
        List<Frame> frames = new ArrayList<>();
        List<Integer> numbers = new ArrayList<>();
        List<Integer> refs = new ArrayList<>();
        List<Integer> sites = new ArrayList<>();
    }

    static final class Thing {
        int[] fields = new int[8];
        Strand owner;
        int count;
        List<Strand> queue = new ArrayList<>();
        List<Strand> waiters = new ArrayList<>();
        Strand of;
    }

    private final Model model;
    private final boolean rows;
    private final int quantum;
    final List<Thing> things = new ArrayList<>();
    final List<Strand> strands = new ArrayList<>();
    final List<Strand> ready = new ArrayList<>();
    final List<Integer> output = new ArrayList<>();
    int time;
    int mostSteps;
    int rowsDone;

    private Strand me;
    private List<Frame> frames = new ArrayList<>();
    private int left;
    private int runSteps;
    private boolean stopped;
    private boolean leaving;
    private boolean rebuilding;

    ModelWorld(Model model, boolean rows, int first, int quantum) {
        this.model = model;
        this.rows = rows;
        this.quantum = quantum;
        becomesReady(newStrand(first, new int[0]), false);
    }

    private Strand newStrand(int first, int[] params) {
        Strand made = new Strand();
        made.number = strands.size();
        made.first = first;
        made.params = params;
        Thing own = new Thing();
        own.of = made;
        things.add(own);
        made.self = things.size();
        strands.add(made);
        return made;
    }

    private void becomesReady(Strand one, boolean passing) {
        one.state = 0;
        one.wants = -1;
        one.sleeps = 0;
        one.passing = passing;
        ready.add(one);
    }

    int turns(int n, int seed) {
        int ran = 0;
        for (int t = 0; t < n; t++) {
            time++;
            for (Strand one : strands) {
                if (one.state == 3) {
                    one.sleeps--;
                    if (one.sleeps == 0) {
                        becomesReady(one, true);
                    }
                }
            }
            for (Strand one : strands) {
                if (one.killed) {
                    one.killedAgo++;
                    if (one.killedAgo >= 12 && one.state != 5) {
                        ends(one, 3, -9);
                    }
                }
            }
            if (!ready.isEmpty()) {
                seed = seed * 1103515245 + 12345;
                runs(ready.remove((seed >>> 16) % ready.size()));
                ran++;
            }
        }
        return ran;
    }

    private void runs(Strand one) {
        me = one;
        left = quantum;
        runSteps = 0;
        stopped = false;
        leaving = false;
        rebuilding = false;
        if (rows) {
            frames = new ArrayList<>();
            frames.add(new Frame(one.first));
            rebuilding = !one.sites.isEmpty();
        } else {
            frames = one.frames;
            if (one.fresh) {
                frames.add(new Frame(one.first));
            }
        }
        if (one.fresh) {
            System.arraycopy(one.params, 0, frames.get(0).slots, 0, one.params.length);
        }
        one.fresh = false;
        while (!stopped) {
            if (rows) {
                doRow();
            } else {
                doInstruction();
            }
        }
        mostSteps = Math.max(mostSteps, runSteps);
    }

    private Frame top() {
        return frames.get(frames.size() - 1);
    }

    private int instructionOf(Frame frame) {
        return rows ? model.owners.get(frame.method).get(frame.pc) : frame.pc;
    }

    private void doInstruction() {
        Frame f = top();
        if (model.spends(f.method, f.pc)) {
            if (me.passing) {
                me.passing = false;
            } else if (me.killed) {
                raised(-9);
                return;
            } else if (--left < 0) {
                becomesReady(me, true);
                stopped = true;
                return;
            }
        }
        carryOut(f, model.op(f.method, f.pc), model.told(f.method, f.pc));
    }

    private void doRow() {
        Frame f = top();
        int[] row = model.rows.get(f.method).get(f.pc);
        boolean code = f.pc < model.owners.get(f.method).size();
        rowsDone++;
        if (!code) {
            doAwayRow(f, row[0], row[1]);
            return;
        }
        switch (row[0]) {
            case 40:
                f.pc++;
                if (rebuilding) {
                    int site = me.sites.remove(me.sites.size() - 1);
                    f.pc = againOf(f.method, site);
                    rebuilding = !me.sites.isEmpty();
                }
                break;
            case 41:
                if (me.passing) {
                    me.passing = false;
                } else if (me.killed) {
                    raised(-9);
                    return;
                } else if (--left < 0) {
                    becomesReady(me, true);
                    leaving = true;
                }
                f.pc++;
                break;
            case 42:
                f.pc = leaving ? row[1] : f.pc + 1;
                break;
            default:
                carryOut(f, row[0], row[1]);
        }
    }

    private int againOf(int m, int site) {
        List<int[]> all = model.rows.get(m);
        int at = 0;
        while (all.get(at)[0] != 44 || all.get(at)[1] != site) {
            at++;
        }
        return at + 1;
    }

    private void doAwayRow(Frame f, int op, int number) {
        List<Integer> packed = number == 0 ? me.numbers : me.refs;
        f.pc++;
        switch (op) {
            case 43: packed.add(pop(f)); break;
            case 45: f.stack.add(packed.remove(packed.size() - 1)); break;
            case 2: f.stack.add(f.slots[number]); break;
            case 3: f.slots[number] = pop(f); break;
            case 0: case 1: f.stack.add(0); break;
            case 12: f.pc = number; break;
            default:
                me.sites.add(number);
                frames.remove(frames.size() - 1);
                if (frames.isEmpty()) {
                    stopped = true;
                } else {
                    top().pc++;
                }
        }
    }

    private int pop(Frame f) {
        return f.stack.remove(f.stack.size() - 1);
    }

    private void step() {
        me.steps++;
        runSteps++;
    }

    private void raised(int number) {
        while (!frames.isEmpty()) {
            Frame f = top();
            int i = instructionOf(f);
            for (int[] h : model.codes[f.method].handlers) {
                if (h[0] <= i && i < h[1]) {
                    f.stack.clear();
                    f.stack.add(number);
                    f.pc = rows ? model.begins[f.method][h[2]] : h[2];
                    return;
                }
            }
            frames.remove(frames.size() - 1);
        }
        ends(me, 2, number);
        stopped = true;
    }

    private void carryOut(Frame f, int op, int told) {
        if (op >= Code.YIELD) {
            point(f, op);
            return;
        }
        if (!(op == Code.CALL && rebuilding)) {
            step();
        }
        int b;
        int a;
        switch (op) {
            case Code.PUSH: f.stack.add(told); break;
            case Code.NONE: f.stack.add(0); break;
            case Code.LOAD: f.stack.add(f.slots[told]); break;
            case Code.STORE: f.slots[told] = pop(f); break;
            case Code.DROP: pop(f); break;
            case Code.COPY: f.stack.add(f.stack.get(f.stack.size() - 1)); break;
            case Code.SWAP: f.stack.add(f.stack.remove(f.stack.size() - 2)); break;
            case Code.ADD: b = pop(f); f.stack.add(pop(f) + b); break;
            case Code.SUB: b = pop(f); f.stack.add(pop(f) - b); break;
            case Code.MUL: b = pop(f); f.stack.add(pop(f) * b); break;
            case Code.DIV: case Code.REM:
                b = pop(f);
                a = pop(f);
                if (b == 0) {
                    raised(-2);
                    return;
                }
                f.stack.add((int) (op == Code.DIV ? (long) a / b : (long) a % b));
                break;
            case Code.JUMP: f.pc = told; return;
            case Code.JZERO: case Code.JNONE: if (pop(f) == 0) { f.pc = told; return; } break;
            case Code.JLESS: b = pop(f); if (pop(f) < b) { f.pc = told; return; } break;
            case Code.JSAME: b = pop(f); if (pop(f) == b) { f.pc = told; return; } break;
            case Code.OUT: output.add(pop(f)); break;
            case Code.SELF: f.stack.add(me.self); break;
            case Code.RAISE: raised(pop(f)); return;
            case Code.RETURN: returns(f); return;
            default: carryOutMore(f, op, told); return;
        }
        f.pc++;
    }

    private void carryOutMore(Frame f, int op, int told) {
        int value;
        Thing thing;
        switch (op) {
            case Code.NEW:
                if (things.size() == 300) {
                    raised(-5);
                    return;
                }
                things.add(new Thing());
                f.stack.add(things.size());
                break;
            case Code.SPAWN:
                if (things.size() == 300 || strands.size() == 24) {
                    raised(-5);
                    return;
                }
                int[] params = takeParams(f, told);
                Strand made = newStrand(told, params);
                f.stack.add(made.self);
                becomesReady(made, false);
                break;
            case Code.GET: case Code.FETCH:
                value = pop(f);
                if (value == 0) {
                    raised(-1);
                    return;
                }
                f.stack.add(things.get(value - 1).fields[told + (op == Code.GET ? 0 : 4)]);
                break;
            case Code.PUT: case Code.KEEP:
                int put = pop(f);
                value = pop(f);
                if (value == 0) {
                    raised(-1);
                    return;
                }
                things.get(value - 1).fields[told + (op == Code.PUT ? 0 : 4)] = put;
                break;
            case Code.CALL:
                if (frames.size() == 30) {
                    raised(-4);
                    return;
                }
                int[] given = takeParams(f, told);
                Frame callee = new Frame(told);
                System.arraycopy(given, 0, callee.slots, 0, given.length);
                frames.add(callee);
                return;
            case Code.EACH:
                f.eachNext = 0;
                f.eachEnd = Math.min(4, pop(f));
                each(f, told);
                return;
            default:
                value = pop(f);
                if (value == 0) {
                    raised(-1);
                    return;
                }
                thing = things.get(value - 1);
                if (op == Code.KILL) {
                    if (thing.of == null) {
                        raised(-3);
                        return;
                    }
                    kills(thing.of);
                    break;
                }
                if (thing.owner != me) {
                    raised(-3);
                    return;
                }
                if (op == Code.FREE) {
                    if (--thing.count == 0) {
                        handedOn(thing);
                    }
                    break;
                }
                while (!thing.waiters.isEmpty()) {
                    Strand woken = thing.waiters.remove(0);
                    woken.state = 1;
                    thing.queue.add(woken);
                    if (told == 0) {
                        break;
                    }
                }
        }
        f.pc++;
    }

    private int[] takeParams(Frame f, int m) {
        int[] params = new int[model.codes[m].params];
        for (int k = params.length - 1; k >= 0; k--) {
            params[k] = pop(f);
        }
        return params;
    }

    private void each(Frame f, int m) {
        if (f.eachNext >= f.eachEnd) {
            f.pc++;
        } else if (frames.size() == 30) {
            raised(-4);
        } else {
            Frame callee = new Frame(m);
            callee.slots[0] = f.eachNext++;
            frames.add(callee);
        }
    }

    private void returns(Frame f) {
        int kind = model.codes[f.method].result;
        int value = kind == 0 ? 0 : pop(f);
        frames.remove(frames.size() - 1);
        if (frames.isEmpty()) {
            ends(me, 1, kind == 1 ? value : 0);
            stopped = true;
            return;
        }
        Frame below = top();
        int i = instructionOf(below);
        if (model.op(below.method, i) == Code.EACH) {
            each(below, model.told(below.method, i));
            return;
        }
        if (kind != 0) {
            below.stack.add(value);
        }
        below.pc++;
    }

    private void goesOn(Frame f, int op) {
        step();
        int taken = op == Code.YIELD ? 0 : pop(f);
        if (op == Code.JOIN) {
            f.stack.add(things.get(taken - 1).of.outcome);
        }
        f.pc++;
    }

    private void stops(Frame f) {
        if (rows) {
            leaving = true;
            f.pc++;
        } else {
            stopped = true;
        }
    }

    private void raisesAtPoint(int number) {
        step();
        raised(number);
    }

    private void point(Frame f, int op) {
        if (me.passing) {
            me.passing = false;
            goesOn(f, op);
            return;
        }
        if (me.killed) {
            raisesAtPoint(-9);
            return;
        }
        int value = op == Code.YIELD ? 0 : f.stack.get(f.stack.size() - 1);
        if (op == Code.YIELD) {
            becomesReady(me, true);
            stops(f);
            return;
        }
        if (op == Code.SLEEP) {
            if (value < 1) {
                goesOn(f, op);
            } else {
                me.state = 3;
                me.sleeps = Math.min(1000, value);
                stops(f);
            }
            return;
        }
        if (value == 0) {
            raisesAtPoint(-1);
            return;
        }
        Thing thing = things.get(value - 1);
        if (op == Code.JOIN) {
            if (thing.of == null) {
                raisesAtPoint(-3);
            } else if (thing.of.state == 5) {
                goesOn(f, op);
            } else {
                me.state = 4;
                me.wants = thing.of.number;
                stops(f);
            }
        } else if (op == Code.LOCK) {
            if (thing.owner == null || thing.owner == me) {
                thing.owner = me;
                thing.count++;
                goesOn(f, op);
            } else {
                me.state = 1;
                me.wants = value;
                me.byLock = true;
                thing.queue.add(me);
                stops(f);
            }
        } else if (thing.owner != me) {
            raisesAtPoint(-3);
        } else {
            me.state = 2;
            me.wants = value;
            me.byLock = false;
            me.killedWaiting = false;
            me.count = thing.count;
            thing.waiters.add(me);
            handedOn(thing);
            stops(f);
        }
    }

    private void handedOn(Thing thing) {
        thing.owner = null;
        thing.count = 0;
        if (!thing.queue.isEmpty()) {
            Strand next = thing.queue.remove(0);
            thing.owner = next;
            thing.count = next.byLock ? 1 : next.count;
            becomesReady(next, next.byLock || !next.killedWaiting);
        }
    }

    private void kills(Strand one) {
        if (one.state == 5 || one.killed) {
            return;
        }
        one.killed = true;
        one.killedAgo = 0;
        if (one.state == 1 && one.byLock) {
            things.get(one.wants - 1).queue.remove(one);
            becomesReady(one, false);
        } else if (one.state == 3 || one.state == 4) {
            becomesReady(one, false);
        } else if (one.state == 2) {
            Thing thing = things.get(one.wants - 1);
            thing.waiters.remove(one);
            thing.queue.add(one);
            one.state = 1;
            one.killedWaiting = true;
            if (thing.owner == null) {
                handedOn(thing);
            }
        }
    }

    private void ends(Strand one, int how, int outcome) {
        one.state = 5;
        one.how = how;
        one.outcome = outcome;
        ready.remove(one);
        for (Thing thing : things) {
            thing.queue.remove(one);
            thing.waiters.remove(one);
        }
        one.wants = -1;
        one.passing = false;
        one.fresh = false;
        one.frames.clear();
        one.numbers.clear();
        one.refs.clear();
        one.sites.clear();
        for (Thing thing : things) {
            if (thing.owner == one) {
                handedOn(thing);
            }
        }
        for (Strand other : strands) {
            if (other.state == 4 && other.wants == one.number) {
                becomesReady(other, true);
            }
        }
    }

    /** The frames with which a strand will go on; those of world 1 are rebuilt from its pack. */
    List<Frame> framesOf(Strand one) {
        List<Frame> all = new ArrayList<>();
        if (one.state == 5) {
            return all;
        }
        if (one.fresh) {
            Frame f = new Frame(one.first);
            System.arraycopy(one.params, 0, f.slots, 0, one.params.length);
            all.add(f);
            return all;
        }
        if (!rows) {
            return one.frames;
        }
        List<Integer> numbers = new ArrayList<>(one.numbers);
        List<Integer> refs = new ArrayList<>(one.refs);
        int m = one.first;
        for (int s = one.sites.size() - 1; s >= 0; s--) {
            Frame f = new Frame(m);
            int pc = againOf(m, one.sites.get(s));
            int[] row = model.rows.get(m).get(pc);
            while (row[0] != Code.JUMP) {
                List<Integer> from = row[1] == 0 ? numbers : refs;
                if (row[0] == 45) {
                    f.stack.add(from.remove(from.size() - 1));
                } else if (row[0] == Code.STORE) {
                    f.slots[row[1]] = pop(f);
                }
                row = model.rows.get(m).get(++pc);
            }
            f.pc = model.owners.get(m).get(row[1]);
            all.add(f);
            if (s > 0) {
                m = model.told(m, f.pc);
            }
        }
        return all;
    }

    int ringed() {
        int many = 0;
        for (Strand one : strands) {
            Strand at = one;
            for (int k = 0; k < 100 && at != null; k++) {
                at = at.state == 1 ? things.get(at.wants - 1).owner : at.state == 4 ? strands.get(at.wants) : null;
                if (at == one) {
                    many++;
                    break;
                }
            }
        }
        return many;
    }
}
