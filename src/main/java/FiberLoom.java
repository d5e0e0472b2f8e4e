import java.util.Arrays;

/**
 * A loom of fibers: files of methods are read, held against rules of types and rewritten, and
 * fibers run by the same turns in two worlds. ../shared/DOC.md tells what each call promises.
 */
public final class FiberLoom {
    public static final int NONE = -1;

    private static final int MOST_BYTES = 6000;
    private static final int MOST_METHODS = 24;
    private static final int MOST_PARAMS = 6;
    private static final int MOST_SLOTS = 12;
    private static final int MOST_INSTRUCTIONS = 120;
    private static final int MOST_HANDLERS = 6;
    private static final int MOST_ON_STACK = 12;
    private static final int MOST_FRAMES = 30;
    private static final int MOST_THINGS = 300;
    private static final int MOST_FIBERS = 24;
    private static final int MOST_KEPT = 500;
    private static final int MOST_PACKED = 720;
    private static final int MOST_QUANTUM = 100;
    private static final int MOST_TURNS = 50;
    private static final int LONGEST_SLEEP = 1000;
    private static final int MOST_EACH = 4;
    private static final int ABANDON_AFTER = 12;

    /** A round changes at least one slot or reaches one instruction: far fewer rounds are needed. */
    private static final int MOST_ROUNDS = 2000;
    /** A run is bounded by its quantum; this stands far above what the dearest one needs. */
    private static final int LONGEST_RUN = 100000000;

    private static final int PUSH = 0;
    private static final int PUSH_NONE = 1;
    private static final int LOAD = 2;
    private static final int STORE = 3;
    private static final int DROP = 4;
    private static final int COPY = 5;
    private static final int SWAP = 6;
    private static final int ADD = 7;
    private static final int SUB = 8;
    private static final int MUL = 9;
    private static final int DIV = 10;
    private static final int REM = 11;
    private static final int JUMP = 12;
    private static final int JUMP_ZERO = 13;
    private static final int JUMP_LESS = 14;
    private static final int JUMP_NONE = 15;
    private static final int JUMP_SAME = 16;
    private static final int NEW = 17;
    private static final int GET = 18;
    private static final int PUT = 19;
    private static final int FETCH = 20;
    private static final int KEEP = 21;
    private static final int CALL = 22;
    private static final int RETURN = 23;
    private static final int RAISE = 24;
    private static final int OUT = 25;
    private static final int SELF = 26;
    private static final int SPAWN = 27;
    private static final int EACH = 28;
    private static final int KILL = 29;
    private static final int FREE = 30;
    private static final int WAKE = 31;
    private static final int YIELD = 32;
    private static final int SLEEP = 33;
    private static final int JOIN = 34;
    private static final int LOCK = 35;
    private static final int WAIT = 36;
    private static final int ENTER = 40;
    private static final int SPEND = 41;
    private static final int LEFT = 42;
    private static final int PACK = 43;
    private static final int QUIT = 44;
    private static final int UNPACK = 45;

    private static final int TELLS_NUMBER = 1;
    private static final int TELLS_SLOT = 2;
    private static final int TELLS_INSTRUCTION = 3;
    private static final int TELLS_FIELD = 4;
    private static final int TELLS_METHOD = 5;
    private static final int TELLS_WAKE = 6;

    /** What is told with each op. */
    private static final int[] TELLS = {
        1, 0, 2, 2, 0, 0, 0, 0, 0, 0, 0, 0, 3, 3, 3, 3, 3, 0, 4, 4,
        4, 4, 5, 0, 0, 0, 0, 5, 5, 0, 0, 6, 0, 0, 0, 0, 0};
    /** What each op takes: two bits for each one, the top's lowest (1 N, 2 R, 3 any). */
    private static final int[] TAKES = {
        0, 0, 0, 3, 3, 3, 15, 5, 5, 5, 5, 5, 0, 1, 5, 2, 10, 0, 2, 9,
        2, 10, 0, 0, 1, 1, 0, 0, 1, 2, 2, 2, 0, 1, 2, 2, 2};
    /** What each op gives (0 nothing, 1 N, 2 R); LOAD, COPY, SWAP and CALL are told apart. */
    private static final int[] GIVES = {
        1, 2, 0, 0, 0, 0, 0, 1, 1, 1, 1, 1, 0, 0, 0, 0, 0, 2, 1, 0,
        2, 0, 0, 0, 0, 0, 2, 2, 0, 0, 0, 0, 0, 0, 1, 0, 0};

    private static final int NUMBER = 1;
    private static final int REFERENCE = 2;

    private static final int READY = 0;
    private static final int LOCKING = 1;
    private static final int WAITING = 2;
    private static final int SLEEPING = 3;
    private static final int JOINING = 4;
    private static final int ENDED = 5;

    private static final int RETURNED = 1;
    private static final int RAISED = 2;
    private static final int ABANDONED = 3;

    private static final int OF_NONE = -1;
    private static final int BY_ZERO = -2;
    private static final int NOT_ITS_OWN = -3;
    private static final int TOO_DEEP = -4;
    private static final int TOO_MANY = -5;
    private static final int DEATH = -9;

    private final int[] tape = new int[MOST_BYTES];
    private int taped;
    private int faultKind;
    private int faultPlace = NONE;
    private int faultInstruction = NONE;
    private Method[] methods = new Method[0];
    private final Runner plain = new Runner(new World(false));
    private final Runner woven = new Runner(new World(true));

    public FiberLoom() {
    }

    public boolean feed(int a, int b, int c, int d, int e) {
        if (taped + 20 > tape.length) {
            return false;
        }
        tapeNumber(a);
        tapeNumber(b);
        tapeNumber(c);
        tapeNumber(d);
        tapeNumber(e);
        return true;
    }

    private void tapeNumber(int number) {
        for (int shift = 24; shift >= 0 && taped < tape.length; shift -= 8) {
            tape[taped] = (number >>> shift) & 255;
            taped++;
        }
    }

    public int load(int n) {
        if (n < 0 || n > taped) {
            return NONE;
        }
        taped = 0;
        Reader reader = new Reader(tape, n);
        Method[] read = reader.readFile();
        if (reader.wrong) {
            return tellFault(1, reader.place, NONE);
        }
        Checker checker = new Checker(read);
        checker.checkFile();
        if (checker.kind != 0) {
            return tellFault(checker.kind, checker.wrongMethod, checker.wrongInstruction);
        }
        takeFile(read);
        return tellFault(0, NONE, NONE);
    }

    private int tellFault(int kind, int place, int at) {
        faultKind = kind;
        faultPlace = place;
        faultInstruction = at;
        return kind;
    }

    private void takeFile(Method[] read) {
        for (int m = 0; m < read.length; m++) {
            Method method = read[m];
            if (method != null) {
                method.findLives();
                method.weave = new Weave(method, read);
                method.weave.weaveRows();
            }
        }
        methods = read;
        plain.world.empty(read);
        woven.world.empty(read);
    }

    public int fault(int what) {
        switch (what) {
            case 0: return faultKind;
            case 1: return faultPlace;
            case 2: return faultInstruction;
            default: return NONE;
        }
    }

    private Method methodOf(int m) {
        return m < 0 || m >= methods.length ? null : methods[m];
    }

    public int method(int m, int what) {
        Method method = methodOf(m);
        if (method == null) {
            return NONE;
        }
        switch (what) {
            case 0: return method.params;
            case 1: return method.types;
            case 2: return method.result;
            case 3: return method.slots;
            case 4: return method.count;
            case 5: return method.handlers;
            case 6: return method.suspendable ? 1 : 0;
            case 7: return method.weave == null ? NONE : method.weave.rowCount;
            case 8: return method.weave == null ? NONE : method.weave.siteCount;
            default: return NONE;
        }
    }

    public int instruction(int m, int i, int what) {
        Method method = methodOf(m);
        if (method == null || i < 0 || i >= method.count) {
            return NONE;
        }
        switch (what) {
            case 0: return method.op[i];
            case 1: return method.told[i];
            case 2: return method.reached(i) ? 1 : 0;
            case 3: return method.spends(i) ? 1 : 0;
            default: return method.reached(i) ? method.stateOf(i, what) : NONE;
        }
    }

    public int row(int m, int r, int what) {
        Method method = methodOf(m);
        if (method == null || method.weave == null || what < 0 || what > 1) {
            return NONE;
        }
        Weave weave = method.weave;
        if (r < 0 || r >= weave.rowCount) {
            return NONE;
        }
        weave.find(r);
        return what == 0 ? weave.op : weave.number;
    }

    private Runner runnerOf(int world) {
        return world == 0 ? plain : world == 1 ? woven : null;
    }

    public boolean begin(int world, int method, int quantum) {
        Runner runner = runnerOf(world);
        Method first = methodOf(method);
        if (runner == null || first == null || first.params > 0) {
            return false;
        }
        if (quantum < 1 || quantum > MOST_QUANTUM) {
            return false;
        }
        runner.world.beginAnew(method, quantum);
        return true;
    }

    public int turns(int world, int n, int seed) {
        Runner runner = runnerOf(world);
        if (runner == null || !runner.world.begun || n < 1 || n > MOST_TURNS) {
            return NONE;
        }
        int chance = seed;
        int ran = 0;
        for (int turn = 0; turn < n; turn++) {
            runner.world.passTime();
            int ready = runner.world.ready.count;
            if (ready > 0) {
                chance = chance * 1103515245 + 12345;
                runner.run(runner.world.ready.takeAt((chance >>> 16) % ready));
                ran++;
            }
        }
        return ran;
    }

    private Fiber fiberOf(int world, int f) {
        Runner runner = runnerOf(world);
        return runner == null ? null : runner.world.fiberAt(f);
    }

    public int fiber(int world, int f, int what) {
        Fiber fiber = fiberOf(world, f);
        Runner runner = runnerOf(world);
        if (fiber == null || runner == null) {
            return NONE;
        }
        switch (what) {
            case 0: return fiber.state;
            case 1: return fiber.how;
            case 2: return fiber.outcome;
            case 3: return fiber.steps;
            case 4: return fiber.frameCount(runner.world.rewritten);
            case 5: return fiber.killed ? 1 : 0;
            case 6: return fiber.passing ? 1 : 0;
            case 7: return fiber.self;
            case 8: return fiber.state == SLEEPING ? fiber.wakeAt - runner.world.time : 0;
            case 9: return fiber.target;
            default: return NONE;
        }
    }

    public int frame(int world, int f, int k, int what) {
        Fiber fiber = fiberOf(world, f);
        Runner runner = runnerOf(world);
        if (fiber == null || runner == null) {
            return 0;
        }
        if (k < 0 || k >= fiber.frameCount(runner.world.rewritten)) {
            return 0;
        }
        if (fiber.fresh) {
            return fiber.freshFrame(methodOf(fiber.first), what);
        }
        if (runner.world.rewritten) {
            return fiber.pack.packedFrame(methods, fiber.first, k, what);
        }
        return fiber.frames.plainFrame(methodOf(fiber.frames.method[k]), k, what);
    }

    public int packed(int f, int which, int k) {
        Fiber fiber = woven.world.fiberAt(f);
        return fiber == null ? 0 : fiber.pack.content(which, k);
    }

    public int object(int world, int o, int what) {
        Runner runner = runnerOf(world);
        Thing thing = runner == null ? null : runner.world.thingAt(o);
        return thing == null ? 0 : thing.tell(what);
    }

    public int output(int world, int i) {
        Runner runner = runnerOf(world);
        return runner == null ? 0 : runner.world.outputAt(i);
    }

    public int about(int world, int what) {
        Runner runner = runnerOf(world);
        if (runner == null) {
            return NONE;
        }
        World it = runner.world;
        switch (what) {
            case 0: return it.time;
            case 1: return it.fiberCount;
            case 2: return it.thingCount;
            case 3: return it.outputCount;
            case 4: return it.ready.count;
            case 5: return it.mostSteps;
            case 6: return it.allSteps;
            case 7: return it.rowsDone;
            case 8: return it.onRings();
            default: return what < 20 ? NONE : it.ready.numberAt(what - 20, NONE);
        }
    }

    /** Reads a file's bytes, and stops for good at the first one that can't be there. */
    private static final class Reader {
        private final int[] bytes;
        private final int end;
        private int methodCount;
        int place;
        boolean wrong;

        Reader(int[] bytes, int end) {
            this.bytes = bytes;
            this.end = Math.min(end, bytes.length);
        }

        private int take(int low, int high) {
            if (wrong || place >= end) {
                wrong = true;
                return 0;
            }
            int one = bytes[place];
            if (one < low || one > high) {
                wrong = true;
                return 0;
            }
            place++;
            return one;
        }

        Method[] readFile() {
            take(70, 70);
            take(66, 66);
            methodCount = take(1, MOST_METHODS);
            Method[] read = new Method[methodCount];
            for (int m = 0; m < read.length && !wrong; m++) {
                read[m] = readMethod(m);
            }
            if (place < end) {
                wrong = true;
            }
            return read;
        }

        private Method readMethod(int number) {
            int params = take(0, MOST_PARAMS);
            int types = take(0, (1 << params) - 1);
            int result = take(0, REFERENCE);
            int slots = take(params, MOST_SLOTS);
            int count = take(1, MOST_INSTRUCTIONS);
            int handlers = take(0, MOST_HANDLERS);
            if (wrong) {
                return null;
            }
            Method method = new Method(number, params, types, result, slots, count, handlers);
            for (int i = 0; i < count && !wrong; i++) {
                method.op[i] = take(PUSH, WAIT);
                method.told[i] = wrong ? 0 : readTold(method, TELLS[method.op[i]]);
            }
            for (int h = 0; h < handlers && !wrong; h++) {
                method.from[h] = take(0, count - 1);
                method.to[h] = take(method.from[h] + 1, count - 1);
                method.at[h] = take(method.to[h], count - 1);
            }
            return method;
        }

        private int readTold(Method method, int tells) {
            switch (tells) {
                case TELLS_NUMBER:
                    int number = 0;
                    for (int k = 0; k < 4; k++) {
                        number = (number << 8) | take(0, 255);
                    }
                    return number;
                case TELLS_SLOT: return take(0, method.slots - 1);
                case TELLS_INSTRUCTION: return take(0, method.count - 1);
                case TELLS_FIELD: return take(0, 3);
                case TELLS_METHOD: return take(0, methodCount - 1);
                case TELLS_WAKE: return take(0, 1);
                default: return 0;
            }
        }
    }

    /** A method as it was read, with the state that each reached instruction was found to have. */
    private static final class Method {
        final int number;
        final int params;
        final int types;
        final int result;
        final int slots;
        final int count;
        final int handlers;
        final int[] op;
        final int[] told;
        final int[] from;
        final int[] to;
        final int[] at;
        /** How many on the stack; NONE if the instruction isn't reached. */
        final int[] depth;
        /** A bit for each on the stack, from below: 1 an R. */
        final int[] stackRefs;
        final int[] slotSet;
        final int[] slotRefs;
        final int[] live;
        boolean suspendable;
        Weave weave;

        Method(int number, int params, int types, int result, int slots, int count, int handlers) {
            this.number = number;
            this.params = params;
            this.types = types;
            this.result = result;
            this.slots = slots;
            this.count = Math.max(count, 0);
            this.handlers = Math.max(handlers, 0);
            op = new int[this.count];
            told = new int[this.count];
            from = new int[this.handlers];
            to = new int[this.handlers];
            at = new int[this.handlers];
            depth = new int[this.count];
            stackRefs = new int[this.count];
            slotSet = new int[this.count];
            slotRefs = new int[this.count];
            live = new int[this.count];
        }

        boolean reached(int i) {
            return i >= 0 && i < count && depth[i] >= 0;
        }

        boolean jumps(int i) {
            return op[i] >= JUMP && op[i] <= JUMP_SAME;
        }

        boolean goesOn(int i) {
            return op[i] != JUMP && op[i] != RETURN && op[i] != RAISE;
        }

        boolean spends(int i) {
            if (i < 0 || i >= count || depth[i] < 0) {
                return false;
            }
            return op[i] == CALL || op[i] >= JUMP && op[i] <= JUMP_SAME && told[i] <= i;
        }

        boolean covers(int handler, int i) {
            return from[handler] <= i && to[handler] > i;
        }

        /** Where the first handler of an instruction leads; NONE without one. */
        int handlerOf(int i) {
            for (int h = 0; h < handlers; h++) {
                if (covers(h, i)) {
                    return at[h];
                }
            }
            return NONE;
        }

        void findSuspendable() {
            for (int i = 0; i < count && !suspendable; i++) {
                suspendable = spends(i) || reached(i) && op[i] >= YIELD;
            }
        }

        boolean hasEach() {
            for (int i = 0; i < count; i++) {
                if (reached(i) && op[i] == EACH) {
                    return true;
                }
            }
            return false;
        }

        /** From the last one back, since most ways lead on: few rounds are enough then. */
        void findLives() {
            boolean changed = true;
            for (int round = 0; round < MOST_ROUNDS && changed; round++) {
                changed = false;
                for (int i = count - 1; i >= 0; i--) {
                    int lives = reached(i) ? livesAt(i) : 0;
                    changed = changed || lives != live[i];
                    live[i] = lives;
                }
            }
        }

        private int livesAt(int i) {
            int lives = 0;
            if (goesOn(i) && i + 1 < count) {
                lives = live[i + 1];
            }
            if (jumps(i) && told[i] < count) {
                lives |= live[told[i]];
            }
            if (op[i] == STORE) {
                lives &= ~(1 << told[i]);
            }
            if (op[i] == LOAD) {
                lives |= 1 << told[i];
            }
            for (int h = 0; h < handlers; h++) {
                if (covers(h, i) && at[h] < count) {
                    lives |= live[at[h]];
                }
            }
            return lives;
        }

        /** What instruction() tells of a reached one, from 4 on. */
        int stateOf(int i, int what) {
            if (what == 4) {
                return depth[i];
            }
            if (what >= 10 && what < 10 + slots) {
                return slotType(i, what - 10);
            }
            if (what >= 30 && what < 30 + slots) {
                return (live[i] >>> (what - 30)) & 1;
            }
            if (what >= 50 && what - 50 < depth[i]) {
                return NUMBER + ((stackRefs[i] >>> (what - 50)) & 1);
            }
            return NONE;
        }

        private int slotType(int i, int slot) {
            if (((slotSet[i] >>> slot) & 1) == 0) {
                return 0;
            }
            return NUMBER + ((slotRefs[i] >>> slot) & 1);
        }
    }

    /** Holds the methods against the rules of types: rounds over all that is reached. */
    private static final class Checker {
        private final Method[] methods;
        int kind;
        int wrongMethod;
        int wrongInstruction;
        private boolean changed;
        /** The state behind the instruction that is looked at. */
        private int depth;
        private int stackRefs;
        private int slotSet;
        private int slotRefs;

        Checker(Method[] methods) {
            this.methods = methods;
        }

        void checkFile() {
            for (int m = 0; m < methods.length && kind == 0; m++) {
                if (methods[m] != null) {
                    checkMethod(methods[m]);
                }
            }
            for (int m = 0; m < methods.length && kind == 0; m++) {
                if (methods[m] != null) {
                    methods[m].findSuspendable();
                }
            }
            for (int m = 0; m < methods.length && kind == 0; m++) {
                if (methods[m] != null) {
                    checkEaches(methods[m]);
                }
            }
        }

        private Method methodAt(int m) {
            return m < 0 || m >= methods.length ? null : methods[m];
        }

        private void refuse(int fault, Method m, int i) {
            kind = fault;
            wrongMethod = m.number;
            wrongInstruction = i;
        }

        private void checkEaches(Method m) {
            for (int i = 0; i < m.count && kind == 0; i++) {
                if (m.reached(i) && m.op[i] == EACH && !fitsEach(methodAt(m.told[i]))) {
                    refuse(7, m, i);
                }
            }
        }

        private boolean fitsEach(Method m) {
            return m != null && m.params == 1 && m.types == 0 && m.result == 0
                && !m.suspendable && !m.hasEach();
        }

        private void checkMethod(Method m) {
            if (m.count < 1) {
                return;
            }
            Arrays.fill(m.depth, NONE);
            m.depth[0] = 0;
            m.slotSet[0] = (1 << m.params) - 1;
            m.slotRefs[0] = m.types;
            changed = true;
            for (int round = 0; round < MOST_ROUNDS && changed && kind == 0; round++) {
                changed = false;
                for (int i = 0; i < m.count && kind == 0; i++) {
                    if (m.reached(i)) {
                        look(m, i);
                    }
                }
            }
        }

        private void look(Method m, int i) {
            depth = m.depth[i];
            stackRefs = m.stackRefs[i];
            slotSet = m.slotSet[i];
            slotRefs = m.slotRefs[i];
            int fault = takeAll(wants(m, i));
            if (fault == 0) {
                fault = giveAll(m, i);
            }
            if (fault != 0) {
                refuse(fault, m, i);
                return;
            }
            leadToHandlers(m, i);
            if (kind == 0 && m.goesOn(i)) {
                if (i + 1 >= m.count) {
                    refuse(6, m, i);
                } else {
                    leadTo(m, i, i + 1);
                }
            }
            if (kind == 0 && m.jumps(i)) {
                leadTo(m, i, m.told[i]);
            }
        }

        /** Two bits for each one that is taken, the top's lowest: 1 N, 2 R, 3 any. */
        private int wants(Method m, int i) {
            int op = m.op[i];
            if (op == RETURN) {
                return m.result;
            }
            if (op != CALL && op != SPAWN) {
                return TAKES[op];
            }
            Method callee = methodAt(m.told[i]);
            int wanted = 0;
            for (int k = 0; callee != null && k < callee.params; k++) {
                wanted = (wanted << 2) | (NUMBER + ((callee.types >>> k) & 1));
            }
            return wanted;
        }

        private int takeAll(int wanted) {
            int many = 0;
            for (int rest = wanted; rest != 0 && many < MOST_ON_STACK; rest >>>= 2) {
                many++;
            }
            if (many > depth) {
                return 2;
            }
            for (int k = 0; k < many; k++) {
                int type = NUMBER + ((stackRefs >>> (depth - 1 - k)) & 1);
                if ((((wanted >>> (2 * k)) & 3) & type) == 0) {
                    return 3;
                }
            }
            depth -= many;
            stackRefs &= (1 << depth) - 1;
            return 0;
        }

        private void give(int type) {
            if (type == REFERENCE) {
                stackRefs |= 1 << depth;
            }
            if (type != 0) {
                depth++;
            }
        }

        /** The type that the k-th from the top had ahead of the instruction. */
        private int typeAhead(Method m, int i, int k) {
            return NUMBER + ((m.stackRefs[i] >>> (m.depth[i] - 1 - k)) & 1);
        }

        private int giveAll(Method m, int i) {
            int told = m.told[i];
            switch (m.op[i]) {
                case LOAD:
                    if (((slotSet >>> told) & 1) == 0) {
                        return 3;
                    }
                    give(NUMBER + ((slotRefs >>> told) & 1));
                    break;
                case STORE:
                    slotSet |= 1 << told;
                    slotRefs &= ~(1 << told);
                    if (typeAhead(m, i, 0) == REFERENCE) {
                        slotRefs |= 1 << told;
                    }
                    break;
                case COPY:
                    give(typeAhead(m, i, 0));
                    give(typeAhead(m, i, 0));
                    break;
                case SWAP:
                    give(typeAhead(m, i, 0));
                    give(typeAhead(m, i, 1));
                    break;
                case CALL:
                    Method callee = methodAt(told);
                    give(callee == null ? 0 : callee.result);
                    break;
                default:
                    give(GIVES[m.op[i]]);
                    break;
            }
            return depth > MOST_ON_STACK ? 4 : 0;
        }

        private void leadToHandlers(Method m, int i) {
            int aheadSet = m.slotSet[i];
            int aheadRefs = m.slotRefs[i];
            for (int h = 0; h < m.handlers && kind == 0; h++) {
                if (m.covers(h, i) && !merge(m, m.at[h], 1, 0, aheadSet, aheadRefs)) {
                    refuse(5, m, i);
                }
            }
        }

        private void leadTo(Method m, int i, int target) {
            if (!merge(m, target, depth, stackRefs, slotSet, slotRefs)) {
                refuse(5, m, i);
            }
        }

        /** False if the instruction is reached already, with another stack. */
        private boolean merge(Method m, int i, int high, int refs, int set, int setRefs) {
            if (i < 0 || i >= m.count) {
                return true;
            }
            if (m.depth[i] < 0) {
                m.depth[i] = high;
                m.stackRefs[i] = refs;
                m.slotSet[i] = set;
                m.slotRefs[i] = setRefs;
                changed = true;
                return true;
            }
            if (m.depth[i] != high || m.stackRefs[i] != refs) {
                return false;
            }
            int kept = m.slotSet[i] & set & ~(m.slotRefs[i] ^ setRefs);
            if (kept != m.slotSet[i]) {
                m.slotSet[i] = kept;
                m.slotRefs[i] &= kept;
                changed = true;
            }
            return true;
        }
    }

    /**
     * A rewritten method. The rows of its instructions are kept; those of AWAY and AGAIN follow
     * from a site's stack and live slots, and are worked out when they are asked for.
     */
    private static final class Weave {
        private final Method method;
        private final Method[] methods;
        int[] rowOp = new int[0];
        int[] rowInstruction = rowOp;
        int[] rowSite = rowOp;
        int[] siteRow = rowOp;
        /** How many on each site's STACK. */
        int[] siteStack = rowOp;
        /** Where each site's AWAY begins, and behind the last one where all rows end. */
        int[] siteAway = rowOp;
        int[] siteAgain = rowOp;
        /** Where the rows of each instruction begin. */
        final int[] first;
        int codeRows;
        int siteCount;
        int rowCount;
        /** What find() found. */
        int op;
        int number;
        private int found;

        Weave(Method method, Method[] methods) {
            this.method = method;
            this.methods = methods;
            first = new int[method.count];
        }

        private boolean leaves(int i) {
            if (!method.reached(i)) {
                return false;
            }
            if (method.op[i] >= YIELD) {
                return true;
            }
            Method callee = method.op[i] == CALL ? calleeOf(i) : null;
            return callee != null && callee.suspendable;
        }

        private Method calleeOf(int i) {
            int m = method.told[i];
            return m < 0 || m >= methods.length ? null : methods[m];
        }

        void weaveRows() {
            countRows();
            rowOp = new int[Math.max(codeRows, 0)];
            rowInstruction = new int[rowOp.length];
            rowSite = new int[rowOp.length];
            siteRow = new int[Math.max(siteCount, 0)];
            siteStack = new int[siteRow.length];
            siteAgain = new int[siteRow.length];
            siteAway = new int[siteRow.length + 1];
            codeRows = 0;
            siteCount = 0;
            if (method.suspendable) {
                add(ENTER, 0, NONE);
            }
            for (int i = 0; i < method.count; i++) {
                weaveInstruction(i);
            }
            placeSites();
        }

        private void placeSites() {
            int place = codeRows;
            for (int s = 0; s < siteCount; s++) {
                int i = rowInstruction[siteRow[s]];
                Method callee = calleeOfSite(s);
                int params = callee == null ? 0 : callee.params;
                int ofSlots = 2 * Integer.bitCount(method.live[i]);
                siteStack[s] = method.depth[i] - params;
                siteAway[s] = place;
                siteAgain[s] = place + siteStack[s] + ofSlots + 1;
                place = siteAgain[s] + ofSlots + siteStack[s] + params + 1;
            }
            siteAway[siteCount] = place;
            rowCount = place;
        }

        private void countRows() {
            codeRows = method.suspendable ? 1 : 0;
            siteCount = 0;
            for (int i = 0; i < method.count; i++) {
                int sites = (method.spends(i) ? 1 : 0) + (leaves(i) ? 1 : 0);
                siteCount += sites;
                codeRows += 1 + sites + (method.spends(i) ? 1 : 0);
            }
        }

        private void weaveInstruction(int i) {
            first[i] = codeRows;
            if (method.spends(i)) {
                add(SPEND, i, siteCount);
                add(LEFT, i, siteCount);
                addSite(codeRows - 2);
            }
            if (leaves(i)) {
                add(method.op[i], i, siteCount);
                add(LEFT, i, siteCount);
                addSite(codeRows - 2);
            } else {
                add(method.op[i], i, NONE);
            }
        }

        private void add(int rowsOp, int i, int site) {
            if (codeRows < rowOp.length) {
                rowOp[codeRows] = rowsOp;
                rowInstruction[codeRows] = i;
                rowSite[codeRows] = site;
                codeRows++;
            }
        }

        private void addSite(int row) {
            if (siteCount < siteRow.length) {
                siteRow[siteCount] = row;
                siteCount++;
            }
        }

        /** The instruction that a row belongs to; NONE for one of AWAY or AGAIN. */
        int instructionOf(int row) {
            return row < 0 || row >= codeRows ? NONE : rowInstruction[row];
        }

        int instructionOfSite(int site) {
            return site < 0 || site >= siteCount ? NONE : instructionOf(siteRow[site]);
        }

        /** The method that a CALL's own site calls; null of any other site. */
        Method calleeOfSite(int site) {
            if (site < 0 || site >= siteCount) {
                return null;
            }
            int row = siteRow[site];
            return rowOp[row] == CALL ? calleeOf(rowInstruction[row]) : null;
        }

        int stackOfSite(int site) {
            return site < 0 || site >= siteCount ? 0 : siteStack[site];
        }

        int againOf(int site) {
            return site < 0 || site >= siteCount ? rowCount : siteAgain[site];
        }

        /** Tells a row's op and number in the fields of these names. */
        void find(int row) {
            op = NONE;
            number = 0;
            if (row < 0 || row >= rowCount) {
                return;
            }
            if (row < codeRows) {
                findCode(row);
                return;
            }
            findSite(row);
            if (found >= siteCount) {
                return;
            }
            if (row < siteAgain[found]) {
                findAway(row - siteAway[found]);
            } else {
                findAgain(row - siteAgain[found]);
            }
        }

        private void findCode(int row) {
            op = rowOp[row];
            int i = rowInstruction[row];
            if (op == LEFT) {
                number = siteAway[rowSite[row]];
            } else if (op < ENTER) {
                number = method.jumps(i) ? first[method.told[i]] : method.told[i];
            }
        }

        /** Rows are mostly asked for one after the other: the latest site is looked at first. */
        private void findSite(int row) {
            if (found >= siteCount || siteAway[found] > row) {
                found = 0;
            }
            for (int s = found; s < siteCount && siteAway[s] <= row; s++) {
                found = s;
            }
        }

        private void findAway(int offset) {
            int i = rowInstruction[siteRow[found]];
            int stack = siteStack[found];
            int lives = method.live[i];
            int behind = offset - stack;
            if (offset < stack) {
                op = PACK;
                number = (method.stackRefs[i] >>> (stack - 1 - offset)) & 1;
            } else if (behind < 2 * Integer.bitCount(lives)) {
                int slot = bitAt(lives, behind >> 1);
                op = (behind & 1) == 0 ? LOAD : PACK;
                number = op == LOAD ? slot : (method.slotRefs[i] >>> slot) & 1;
            } else {
                op = QUIT;
                number = found;
            }
        }

        private void findAgain(int offset) {
            int i = rowInstruction[siteRow[found]];
            int stack = siteStack[found];
            int lives = method.live[i];
            int ofSlots = 2 * Integer.bitCount(lives);
            int behind = offset - ofSlots;
            if (siteAgain[found] + offset + 1 == siteAway[found + 1]) {
                op = JUMP;
                number = siteRow[found];
            } else if (offset < ofSlots) {
                int slot = bitAt(lives, (ofSlots - 1 - offset) >> 1);
                op = (offset & 1) == 0 ? UNPACK : STORE;
                number = op == STORE ? slot : (method.slotRefs[i] >>> slot) & 1;
            } else if (behind < stack) {
                op = UNPACK;
                number = (method.stackRefs[i] >>> behind) & 1;
            } else {
                op = ((method.stackRefs[i] >>> behind) & 1) == 0 ? PUSH : PUSH_NONE;
            }
        }

        /** The place of the k-th bit that is set, from 0 on. */
        private int bitAt(int bits, int k) {
            int rest = bits;
            for (int left = 0; left < k; left++) {
                rest &= rest - 1;
            }
            return Integer.numberOfTrailingZeros(rest);
        }
    }

    /** A row of fibers: the ready ones, a lock's queue, its waiters. */
    private static final class Line {
        private final Fiber[] fibers = new Fiber[MOST_FIBERS];
        int count;

        void add(Fiber fiber) {
            if (count < fibers.length) {
                fibers[count] = fiber;
                count++;
            }
        }

        /** Null if there is none at that place. */
        Fiber takeAt(int place) {
            if (place < 0 || place >= count) {
                return null;
            }
            Fiber taken = fibers[place];
            count--;
            for (int k = place; k < count; k++) {
                fibers[k] = fibers[k + 1];
            }
            fibers[count] = null;
            return taken;
        }

        void remove(Fiber fiber) {
            int kept = 0;
            for (int k = 0; k < count; k++) {
                if (fibers[k] != fiber) {
                    fibers[kept] = fibers[k];
                    kept++;
                }
            }
            count = kept;
        }

        int numberAt(int place, int otherwise) {
            if (place < 0 || place >= count) {
                return otherwise;
            }
            Fiber fiber = fibers[place];
            return fiber == null ? otherwise : fiber.number;
        }
    }

    /** An object of a world, with its lock. */
    private static final class Thing {
        /** Four numbers, then four references. */
        final int[] fields = new int[8];
        final Line queue;
        final Line waiters;
        int owner = NONE;
        int count;
        /** The fiber whose own object it is, or NONE. */
        int ofFiber = NONE;

        /** Its rows are handed in, since calls that made them here would go one deeper. */
        Thing(Line queue, Line waiters) {
            this.queue = queue;
            this.waiters = waiters;
        }

        void renew(int fiber) {
            Arrays.fill(fields, 0);
            queue.count = 0;
            waiters.count = 0;
            owner = NONE;
            count = 0;
            ofFiber = fiber;
        }

        int tell(int what) {
            if (what >= 0 && what < fields.length) {
                return fields[what];
            }
            switch (what) {
                case 8: return owner;
                case 9: return count;
                case 10: return queue.count;
                case 11: return waiters.count;
                default: break;
            }
            if (what >= 50) {
                return waiters.numberAt(what - 50, 0);
            }
            return what >= 20 ? queue.numberAt(what - 20, 0) : 0;
        }
    }

    private static final class Fiber {
        final int number;
        final Frames frames;
        final Pack pack;
        final int[] params = new int[MOST_PARAMS];
        int first;
        int self;
        int state;
        int how;
        int outcome;
        int steps;
        int killedAt;
        int wakeAt;
        /** The COUNT with which it came to the WAITERS; 0 if it came to a queue by LOCK. */
        int waitCount;
        /** The object whose lock it wants, or the fiber that it joins; NONE. */
        int target;
        boolean passing;
        boolean killed;
        boolean killedWaiting;
        /** It hasn't run yet: it has nothing but its params. */
        boolean fresh;

        Fiber(int number, Frames frames, Pack pack) {
            this.number = number;
            this.frames = frames;
            this.pack = pack;
        }

        void renew(int firstMethod, int ownThing) {
            first = firstMethod;
            self = ownThing;
            state = READY;
            how = 0;
            outcome = 0;
            steps = 0;
            killedAt = 0;
            wakeAt = 0;
            waitCount = 0;
            target = NONE;
            passing = false;
            killed = false;
            killedWaiting = false;
            fresh = true;
            Arrays.fill(params, 0);
            pack.empty();
        }

        int frameCount(boolean rewritten) {
            if (state == ENDED) {
                return 0;
            }
            if (fresh) {
                return 1;
            }
            return rewritten ? pack.siteCount : frames.depth;
        }

        int freshFrame(Method method, int what) {
            if (method == null || method.count < 1) {
                return 0;
            }
            if (what == 0) {
                return first;
            }
            int slot = what - 10;
            if (slot < 0 || slot >= method.params || slot >= params.length) {
                return 0;
            }
            return ((method.live[0] >>> slot) & 1) == 0 ? 0 : params[slot];
        }
    }

    /** A row of frames. */
    private static final class Frames {
        final int[] method = new int[MOST_FRAMES];
        /** The instruction, or in the rewritten world the row, at which each frame stands. */
        final int[] place = new int[MOST_FRAMES];
        final int[] height = new int[MOST_FRAMES];
        final int[] eachNext = new int[MOST_FRAMES];
        final int[] eachEnd = new int[MOST_FRAMES];
        private final int[] slots = new int[MOST_FRAMES * MOST_SLOTS];
        private final int[] stack = new int[MOST_FRAMES * MOST_ON_STACK];
        int depth;

        void push(int value) {
            int top = depth - 1;
            if (top >= 0 && height[top] >= 0 && height[top] < MOST_ON_STACK) {
                stack[top * MOST_ON_STACK + height[top]] = value;
                height[top]++;
            }
        }

        int pop() {
            int top = depth - 1;
            if (top < 0 || height[top] < 1) {
                return 0;
            }
            height[top]--;
            return stack[top * MOST_ON_STACK + height[top]];
        }

        int peek() {
            int top = depth - 1;
            return top < 0 || height[top] < 1 ? 0 : stack[top * MOST_ON_STACK + height[top] - 1];
        }

        int slotOf(int slot) {
            int top = depth - 1;
            return top < 0 || slot < 0 || slot >= MOST_SLOTS ? 0 : slots[top * MOST_SLOTS + slot];
        }

        void setSlot(int slot, int value) {
            int top = depth - 1;
            if (top >= 0 && slot >= 0 && slot < MOST_SLOTS) {
                slots[top * MOST_SLOTS + slot] = value;
            }
        }

        /** Opens a frame at its method's beginning; false if there is no room for one more. */
        boolean open(int number) {
            if (depth < 0 || depth >= MOST_FRAMES) {
                return false;
            }
            method[depth] = number;
            place[depth] = 0;
            height[depth] = 0;
            eachNext[depth] = 0;
            eachEnd[depth] = 0;
            for (int k = 0; k < MOST_SLOTS; k++) {
                slots[depth * MOST_SLOTS + k] = 0;
            }
            depth++;
            return true;
        }

        /** Opens a frame whose first slots are what was on top of the stack below. */
        void openWith(Method callee) {
            int caller = depth - 1;
            if (caller < 0 || height[caller] < callee.params || !open(callee.number)) {
                return;
            }
            height[caller] -= callee.params;
            int from = caller * MOST_ON_STACK + height[caller];
            System.arraycopy(stack, from, slots, (caller + 1) * MOST_SLOTS, callee.params);
        }

        void goTo(int target) {
            if (depth > 0) {
                place[depth - 1] = target;
            }
        }

        void goOn() {
            if (depth > 0) {
                place[depth - 1]++;
            }
        }

        /** What frame() tells of a frame in world 0. */
        int plainFrame(Method its, int k, int what) {
            if (its == null || k < 0 || k >= depth || !its.reached(place[k])) {
                return 0;
            }
            switch (what) {
                case 0: return its.number;
                case 1: return place[k];
                case 2: return height[k];
                default: break;
            }
            int slot = what - 10;
            if (slot >= 0 && slot < its.slots && slot < MOST_SLOTS) {
                boolean lives = ((its.live[place[k]] >>> slot) & 1) == 1;
                return lives ? slots[k * MOST_SLOTS + slot] : 0;
            }
            int on = what - 30;
            return on < 0 || on >= height[k] ? 0 : stack[k * MOST_ON_STACK + on];
        }
    }

    /** What a fiber of world 1 has packed. */
    private static final class Pack {
        private final int[] sites;
        /** Numbers from the front on, references from the back on: together they fit. */
        private final int[] values;
        int siteCount;
        private int numberCount;
        private int refCount;

        Pack(int mostSites, int mostValues) {
            sites = new int[Math.max(mostSites, 0)];
            values = new int[Math.max(mostValues, 0)];
        }

        void empty() {
            siteCount = 0;
            numberCount = 0;
            refCount = 0;
        }

        void pack(int kind, int value) {
            if (numberCount + refCount >= values.length) {
                return;
            }
            if (kind == 0) {
                values[numberCount] = value;
                numberCount++;
            } else {
                refCount++;
                values[values.length - refCount] = value;
            }
        }

        int unpack(int kind) {
            if (kind == 0) {
                numberCount = Math.max(numberCount - 1, 0);
                return numberCount < values.length ? values[numberCount] : 0;
            }
            if (refCount < 1) {
                return 0;
            }
            refCount--;
            return values[values.length - 1 - refCount];
        }

        void addSite(int site) {
            if (siteCount < sites.length) {
                sites[siteCount] = site;
                siteCount++;
            }
        }

        int takeSite() {
            if (siteCount < 1) {
                return NONE;
            }
            siteCount--;
            return sites[siteCount];
        }

        private int numberAt(int k) {
            return k < 0 || k >= numberCount ? 0 : values[k];
        }

        private int refAt(int k) {
            return k < 0 || k >= refCount ? 0 : values[values.length - 1 - k];
        }

        int content(int which, int k) {
            switch (which) {
                case 0:
                    if (k == NONE) {
                        return siteCount;
                    }
                    return k < 0 || k >= siteCount ? 0 : sites[k];
                case 1: return k == NONE ? numberCount : numberAt(k);
                case 2: return k == NONE ? refCount : refAt(k);
                default: return 0;
            }
        }

        /**
         * What frame() tells of a frame in world 1. Frames were packed from the top one down, so
         * what those below the k-th packed stands behind what it packed itself.
         */
        int packedFrame(Method[] methods, int firstMethod, int k, int what) {
            int m = firstMethod;
            int numbers = 0;
            int refs = 0;
            for (int below = 0; below <= k && below < siteCount; below++) {
                int site = sites[siteCount - 1 - below];
                Method its = m < 0 || m >= methods.length ? null : methods[m];
                if (its == null || its.weave == null || !its.reached(its.weave.instructionOfSite(site))) {
                    return 0;
                }
                if (below == k) {
                    return siteTells(its, site, what, numbers, refs);
                }
                int i = its.weave.instructionOfSite(site);
                int stack = its.weave.stackOfSite(site);
                int packedRefs = Integer.bitCount(its.live[i] & its.slotRefs[i])
                    + Integer.bitCount(its.stackRefs[i] & ((1 << stack) - 1));
                refs += packedRefs;
                numbers += Integer.bitCount(its.live[i]) + stack - packedRefs;
                Method callee = its.weave.calleeOfSite(site);
                m = callee == null ? NONE : callee.number;
            }
            return 0;
        }

        private int siteTells(Method its, int site, int what, int numbers, int refs) {
            int i = its.weave.instructionOfSite(site);
            int stack = its.weave.stackOfSite(site);
            switch (what) {
                case 0: return its.number;
                case 1: return i;
                case 2: return stack;
                default: break;
            }
            int slot = what - 10;
            if (slot >= 0 && slot < its.slots) {
                int higher = its.live[i] & ~((2 << slot) - 1);
                return ((its.live[i] >>> slot) & 1) == 0 ? 0
                    : fromEnd(its.slotRefs[i], slot, higher, numbers, refs);
            }
            int on = what - 30;
            if (on < 0 || on >= stack) {
                return 0;
            }
            int slotRefs = Integer.bitCount(its.live[i] & its.slotRefs[i]);
            int slotNumbers = Integer.bitCount(its.live[i]) - slotRefs;
            int lower = (1 << on) - 1;
            return fromEnd(its.stackRefs[i], on, lower, numbers + slotNumbers, refs + slotRefs);
        }

        /** The value of a bit's type ahead of so many, and of those that its others tell. */
        private int fromEnd(int refBits, int bit, int others, int numbers, int refs) {
            if (((refBits >>> bit) & 1) == 0) {
                return numberAt(numberCount - 1 - numbers - Integer.bitCount(others & ~refBits));
            }
            return refAt(refCount - 1 - refs - Integer.bitCount(others & refBits));
        }
    }

    /** A world: its objects, fibers and ready row, and what befalls them but for running. */
    private static final class World {
        final boolean rewritten;
        private final Frames shared;
        private final Thing[] things = new Thing[MOST_THINGS];
        private final Fiber[] fibers = new Fiber[MOST_FIBERS];
        final Line ready = new Line();
        private final int[] kept = new int[MOST_KEPT];
        Method[] methods = new Method[0];
        int thingCount;
        int fiberCount;
        int outputCount;
        private int keptCount;
        int time;
        int quantum;
        int mostSteps;
        int allSteps;
        int rowsDone;
        boolean begun;

        World(boolean rewritten) {
            this.rewritten = rewritten;
            shared = new Frames();
        }

        void empty(Method[] read) {
            methods = read;
            clear();
            begun = false;
        }

        private void clear() {
            thingCount = 0;
            fiberCount = 0;
            ready.count = 0;
            outputCount = 0;
            keptCount = 0;
            time = 0;
            mostSteps = 0;
            allSteps = 0;
            rowsDone = 0;
        }

        void beginAnew(int firstMethod, int eachQuantum) {
            clear();
            quantum = eachQuantum;
            begun = true;
            Fiber fiber = newFiber(firstMethod);
            if (fiber != null) {
                becomeReady(fiber, false);
            }
        }

        Method methodAt(int m) {
            return m < 0 || m >= methods.length ? null : methods[m];
        }

        Fiber fiberAt(int f) {
            return f < 0 || f >= fiberCount ? null : fibers[f];
        }

        /** Null for NONE. */
        Thing thingAt(int o) {
            return o < 1 || o > thingCount ? null : things[o - 1];
        }

        int outputAt(int i) {
            return i < 0 || i >= keptCount ? 0 : kept[i];
        }

        void putOut(int number) {
            outputCount++;
            if (keptCount < kept.length) {
                kept[keptCount] = number;
                keptCount++;
            }
        }

        /** The number of a new object, 0 if there are too many. */
        int newThing(int ofFiber) {
            if (thingCount >= things.length) {
                return 0;
            }
            if (things[thingCount] == null) {
                things[thingCount] = new Thing(new Line(), new Line());
            }
            things[thingCount].renew(ofFiber);
            thingCount++;
            return thingCount;
        }

        /** Null if there are too many fibers or objects; what there was is used again. */
        Fiber newFiber(int firstMethod) {
            if (fiberCount >= fibers.length || thingCount >= things.length) {
                return null;
            }
            if (fibers[fiberCount] == null) {
                Frames frames = rewritten ? shared : new Frames();
                Pack pack = rewritten ? new Pack(MOST_FRAMES, MOST_PACKED) : new Pack(0, 0);
                fibers[fiberCount] = new Fiber(fiberCount, frames, pack);
            }
            Fiber fiber = fibers[fiberCount];
            fiber.renew(firstMethod, newThing(fiberCount));
            fiberCount++;
            return fiber;
        }

        void becomeReady(Fiber fiber, boolean passing) {
            fiber.state = READY;
            fiber.passing = passing;
            fiber.target = NONE;
            ready.add(fiber);
        }

        void passTime() {
            time++;
            for (int f = 0; f < fiberCount; f++) {
                Fiber fiber = fibers[f];
                if (fiber != null && fiber.state == SLEEPING && fiber.wakeAt <= time) {
                    becomeReady(fiber, true);
                }
            }
            for (int f = 0; f < fiberCount; f++) {
                Fiber fiber = fibers[f];
                if (fiber != null && fiber.killed && fiber.state != ENDED
                    && time - fiber.killedAt >= ABANDON_AFTER) {
                    end(fiber, ABANDONED, DEATH);
                }
            }
        }

        void end(Fiber fiber, int how, int outcome) {
            ready.remove(fiber);
            Thing wanted = fiber.state == LOCKING || fiber.state == WAITING ? thingAt(fiber.target) : null;
            if (wanted != null) {
                wanted.queue.remove(fiber);
                wanted.waiters.remove(fiber);
            }
            fiber.state = ENDED;
            fiber.how = how;
            fiber.outcome = outcome;
            fiber.passing = false;
            fiber.fresh = false;
            fiber.target = NONE;
            fiber.frames.depth = 0;
            fiber.pack.empty();
            for (int o = 0; o < thingCount; o++) {
                if (things[o] != null && things[o].owner == fiber.number) {
                    handOn(things[o]);
                }
            }
            for (int f = 0; f < fiberCount; f++) {
                Fiber other = fibers[f];
                if (other != null && other.state == JOINING && other.target == fiber.number) {
                    becomeReady(other, true);
                }
            }
        }

        void handOn(Thing thing) {
            thing.owner = NONE;
            thing.count = 0;
            Fiber next = thing.queue.takeAt(0);
            if (next != null) {
                thing.owner = next.number;
                thing.count = Math.max(next.waitCount, 1);
                next.waitCount = 0;
                becomeReady(next, !next.killedWaiting);
            }
        }

        void kill(Fiber fiber) {
            if (fiber.state == ENDED || fiber.killed) {
                return;
            }
            fiber.killed = true;
            fiber.killedAt = time;
            Thing wanted = thingAt(fiber.target);
            if (fiber.state == SLEEPING || fiber.state == JOINING) {
                becomeReady(fiber, false);
            } else if (fiber.state == LOCKING && fiber.waitCount == 0 && wanted != null) {
                wanted.queue.remove(fiber);
                becomeReady(fiber, false);
            } else if (fiber.state == WAITING && wanted != null) {
                wanted.waiters.remove(fiber);
                wanted.queue.add(fiber);
                fiber.state = LOCKING;
                fiber.killedWaiting = true;
                if (wanted.owner == NONE) {
                    handOn(wanted);
                }
            }
        }

        void wake(Thing thing, boolean all) {
            int many = all ? thing.waiters.count : Math.min(thing.waiters.count, 1);
            for (int k = 0; k < many; k++) {
                Fiber fiber = thing.waiters.takeAt(0);
                if (fiber != null) {
                    fiber.state = LOCKING;
                    thing.queue.add(fiber);
                }
            }
        }

        /** How many fibers come back to themselves by what they wait for. */
        int onRings() {
            int many = 0;
            for (int f = 0; f < fiberCount; f++) {
                int at = leadsTo(f);
                for (int step = 0; step < MOST_FIBERS && at >= 0 && at != f; step++) {
                    at = leadsTo(at);
                }
                many += at == f ? 1 : 0;
            }
            return many;
        }

        private int leadsTo(int f) {
            Fiber fiber = fiberAt(f);
            if (fiber == null) {
                return NONE;
            }
            if (fiber.state == JOINING) {
                return fiber.target;
            }
            Thing wanted = fiber.state == LOCKING ? thingAt(fiber.target) : null;
            return wanted == null ? NONE : wanted.owner;
        }
    }

    /** Runs one fiber of a world till it stops or ends. */
    private static final class Runner {
        final World world;
        private Fiber fiber;
        private Frames frames;
        private Pack pack;
        private int quantum;
        private int stepsOfRun;
        private boolean stopped;
        private boolean leaving;
        private boolean rebuilding;
        private boolean raised;
        private int raisedNumber;
        /** How the fiber ends, when it has stopped for good; 0 else. */
        private int how;
        private int outcome;

        Runner(World world) {
            this.world = world;
            fiber = new Fiber(NONE, world.shared, new Pack(0, 0));
            frames = fiber.frames;
            pack = fiber.pack;
        }

        void run(Fiber next) {
            if (next == null) {
                return;
            }
            takeUp(next);
            for (int done = 0; done < LONGEST_RUN && !stopped; done++) {
                Method method = methodAt(frames.depth - 1);
                if (method == null) {
                    stopped = true;
                } else {
                    int i = world.rewritten ? nextOfRows(method) : nextOfInstructions(method);
                    if (i >= 0 && i < method.count) {
                        carryOut(method, i);
                    }
                }
                if (raised) {
                    unwind();
                }
            }
            world.mostSteps = Math.max(world.mostSteps, stepsOfRun);
            if (how != 0) {
                world.end(fiber, how, outcome);
            }
        }

        private void takeUp(Fiber next) {
            fiber = next;
            frames = next.frames;
            pack = next.pack;
            quantum = world.quantum;
            stepsOfRun = 0;
            stopped = false;
            leaving = false;
            raised = false;
            how = 0;
            rebuilding = pack.siteCount > 0;
            if (next.fresh || world.rewritten) {
                frames.depth = 0;
                frames.open(next.first);
            }
            for (int k = 0; next.fresh && k < next.params.length; k++) {
                frames.setSlot(k, next.params[k]);
            }
            next.fresh = false;
        }

        private Method methodAt(int frame) {
            return frame < 0 || frame >= MOST_FRAMES ? null : world.methodAt(frames.method[frame]);
        }

        /** The instruction at which a frame stands. */
        private int instructionAt(Method method, int frame) {
            int place = frames.place[frame];
            if (!world.rewritten) {
                return place;
            }
            return method.weave == null ? NONE : method.weave.instructionOf(place);
        }

        /** The instruction to carry out now; NONE if its SPEND doesn't go on. */
        private int nextOfInstructions(Method method) {
            int i = frames.place[frames.depth - 1];
            if (method.spends(i) && !spend()) {
                stopped = !raised;
                return NONE;
            }
            return i;
        }

        /** The instruction to carry out now; NONE if the row is none, and was done here. */
        private int nextOfRows(Method method) {
            Weave weave = method.weave;
            if (weave == null) {
                stopped = true;
                return NONE;
            }
            int row = frames.place[frames.depth - 1];
            world.rowsDone++;
            if (row < 0 || row >= weave.codeRows) {
                weave.find(row);
                doAwayOrAgain(weave.op, weave.number);
                return NONE;
            }
            switch (weave.rowOp[row]) {
                case ENTER:
                    enter(weave);
                    return NONE;
                case SPEND:
                    leaveUnlessItGoesOn();
                    return NONE;
                case LEFT:
                    frames.goTo(leaving ? weave.siteAway[weave.rowSite[row]] : row + 1);
                    return NONE;
                default:
                    return weave.rowInstruction[row];
            }
        }

        private void leaveUnlessItGoesOn() {
            boolean goesOn = spend();
            if (!raised) {
                leaving = !goesOn;
                frames.goOn();
            }
        }

        private void enter(Weave weave) {
            if (!rebuilding) {
                frames.goOn();
                return;
            }
            frames.goTo(weave.againOf(pack.takeSite()));
            rebuilding = pack.siteCount > 0;
        }

        private void doAwayOrAgain(int op, int number) {
            switch (op) {
                case PACK: pack.pack(number, frames.pop()); break;
                case UNPACK: frames.push(pack.unpack(number)); break;
                case LOAD: frames.push(frames.slotOf(number)); break;
                case STORE: frames.setSlot(number, frames.pop()); break;
                case PUSH: frames.push(0); break;
                case PUSH_NONE: frames.push(0); break;
                case JUMP: frames.goTo(number); return;
                case QUIT: quit(number); return;
                default: stopped = true; return;
            }
            frames.goOn();
        }

        private void quit(int site) {
            pack.addSite(site);
            frames.depth--;
            if (frames.depth > 0) {
                frames.goOn();
            } else {
                leaving = false;
                stopped = true;
            }
        }

        /** Whether it goes on; else it has stopped, or DEATH is raised. */
        private boolean spend() {
            if (fiber.passing) {
                fiber.passing = false;
                return true;
            }
            if (fiber.killed) {
                raise(DEATH);
                return false;
            }
            quantum--;
            if (quantum < 0) {
                world.becomeReady(fiber, true);
                return false;
            }
            return true;
        }

        private void countStep() {
            fiber.steps++;
            stepsOfRun++;
            world.allSteps++;
        }

        private void raise(int number) {
            raised = true;
            raisedNumber = number;
        }

        private void unwind() {
            raised = false;
            for (int frame = frames.depth - 1; frame >= 0; frame--) {
                Method method = methodAt(frame);
                int i = method == null ? NONE : instructionAt(method, frame);
                int handler = method == null ? NONE : method.handlerOf(i);
                if (handler >= 0) {
                    frames.height[frame] = 0;
                    frames.push(raisedNumber);
                    jumpTo(method, handler);
                    return;
                }
                frames.depth = frame;
            }
            finish(RAISED, raisedNumber);
        }

        private void finish(int ending, int number) {
            how = ending;
            outcome = number;
            stopped = true;
        }

        private void jumpTo(Method method, int i) {
            if (!world.rewritten) {
                frames.goTo(i);
            } else if (method.weave != null && i >= 0 && i < method.count) {
                frames.goTo(method.weave.first[i]);
            }
        }

        private void carryOut(Method method, int i) {
            int op = method.op[i];
            if (op >= YIELD) {
                doPoint(op);
                return;
            }
            if (!rebuilding) {
                countStep();
            }
            if (op <= SWAP) {
                moveValues(op, method.told[i]);
            } else if (op <= REM) {
                calculate(op);
            } else if (op <= JUMP_SAME) {
                decideJump(method, i);
            } else if (op <= KEEP) {
                useThing(op, method.told[i]);
            } else if (op == CALL || op == RETURN || op == RAISE || op == EACH) {
                changeFrames(method, i);
            } else if (op == KILL || op == FREE || op == WAKE) {
                useFiberOrLock(op, method.told[i]);
            } else if (op == SPAWN) {
                spawn(world.methodAt(method.told[i]));
            } else {
                putOutOrSelf(op);
            }
        }

        private void moveValues(int op, int told) {
            int top;
            int second;
            switch (op) {
                case PUSH: frames.push(told); break;
                case PUSH_NONE: frames.push(0); break;
                case LOAD: frames.push(frames.slotOf(told)); break;
                case STORE: frames.setSlot(told, frames.pop()); break;
                case DROP: frames.pop(); break;
                case COPY: frames.push(frames.peek()); break;
                default:
                    top = frames.pop();
                    second = frames.pop();
                    frames.push(top);
                    frames.push(second);
                    break;
            }
            frames.goOn();
        }

        private void calculate(int op) {
            int second = frames.pop();
            int one = frames.pop();
            if (second == 0 && op >= DIV) {
                raise(BY_ZERO);
                return;
            }
            switch (op) {
                case ADD: frames.push(one + second); break;
                case SUB: frames.push(one - second); break;
                case MUL: frames.push(one * second); break;
                case DIV: frames.push(second == 0 ? 0 : one / second); break;
                default: frames.push(second == 0 ? 0 : one % second); break;
            }
            frames.goOn();
        }

        private void decideJump(Method method, int i) {
            if (jumpsNow(method.op[i])) {
                jumpTo(method, method.told[i]);
            } else {
                frames.goOn();
            }
        }

        private boolean jumpsNow(int op) {
            if (op == JUMP) {
                return true;
            }
            int top = frames.pop();
            if (op == JUMP_ZERO || op == JUMP_NONE) {
                return top == 0;
            }
            int second = frames.pop();
            return op == JUMP_LESS ? second < top : second == top;
        }

        private void useThing(int op, int told) {
            if (op == NEW) {
                int made = world.newThing(NONE);
                if (made == 0) {
                    raise(TOO_MANY);
                    return;
                }
                frames.push(made);
                frames.goOn();
                return;
            }
            boolean puts = op == PUT || op == KEEP;
            int value = puts ? frames.pop() : 0;
            Thing thing = world.thingAt(frames.pop());
            int field = (told & 3) + (op >= FETCH ? 4 : 0);
            if (thing == null) {
                raise(OF_NONE);
                return;
            }
            if (puts) {
                thing.fields[field] = value;
            } else {
                frames.push(thing.fields[field]);
            }
            frames.goOn();
        }

        private void changeFrames(Method method, int i) {
            switch (method.op[i]) {
                case CALL:
                    callMethod(world.methodAt(method.told[i]));
                    break;
                case RETURN:
                    returnFrom(method);
                    break;
                case RAISE:
                    raise(frames.pop());
                    break;
                default:
                    int top = frames.depth - 1;
                    frames.eachEnd[top] = Math.min(frames.pop(), MOST_EACH);
                    frames.eachNext[top] = 0;
                    nextOfEach(world.methodAt(method.told[i]));
                    break;
            }
        }

        private void callMethod(Method callee) {
            if (frames.depth >= MOST_FRAMES) {
                raise(TOO_DEEP);
            } else if (callee != null) {
                frames.openWith(callee);
            }
        }

        private void nextOfEach(Method callee) {
            int top = frames.depth - 1;
            if (top < 0 || callee == null || frames.eachNext[top] >= frames.eachEnd[top]) {
                frames.goOn();
                return;
            }
            if (frames.depth >= MOST_FRAMES) {
                raise(TOO_DEEP);
                return;
            }
            int given = frames.eachNext[top];
            frames.eachNext[top]++;
            frames.open(callee.number);
            frames.setSlot(0, given);
        }

        private void returnFrom(Method method) {
            int value = method.result == 0 ? 0 : frames.pop();
            frames.depth--;
            int below = frames.depth - 1;
            Method caller = methodAt(below);
            if (caller == null) {
                finish(RETURNED, method.result == NUMBER ? value : 0);
                return;
            }
            int i = instructionAt(caller, below);
            if (i >= 0 && i < caller.count && caller.op[i] == EACH) {
                nextOfEach(world.methodAt(caller.told[i]));
                return;
            }
            if (method.result != 0) {
                frames.push(value);
            }
            frames.goOn();
        }

        private void putOutOrSelf(int op) {
            if (op == OUT) {
                world.putOut(frames.pop());
            } else {
                frames.push(fiber.self);
            }
            frames.goOn();
        }

        private void spawn(Method callee) {
            Fiber made = callee == null ? null : world.newFiber(callee.number);
            if (made == null) {
                raise(TOO_MANY);
                return;
            }
            for (int k = Math.min(callee.params, made.params.length) - 1; k >= 0; k--) {
                made.params[k] = frames.pop();
            }
            frames.push(made.self);
            frames.goOn();
            world.becomeReady(made, false);
        }

        private void useFiberOrLock(int op, int told) {
            Thing thing = world.thingAt(frames.pop());
            if (thing == null) {
                raise(OF_NONE);
                return;
            }
            Fiber victim = world.fiberAt(thing.ofFiber);
            boolean allowed = op == KILL ? victim != null : thing.owner == fiber.number;
            if (!allowed) {
                raise(NOT_ITS_OWN);
                return;
            }
            if (op == WAKE) {
                world.wake(thing, told == 1);
            } else if (op == FREE) {
                thing.count--;
                if (thing.count == 0) {
                    world.handOn(thing);
                }
            } else if (victim != null) {
                world.kill(victim);
            }
            frames.goOn();
        }

        private void doPoint(int op) {
            if (fiber.passing) {
                fiber.passing = false;
                passPoint(op);
                return;
            }
            if (fiber.killed) {
                raiseAtPoint(DEATH);
                return;
            }
            switch (op) {
                case YIELD:
                    world.becomeReady(fiber, true);
                    stop();
                    break;
                case SLEEP:
                    fallAsleep();
                    break;
                case JOIN:
                    joinFiber();
                    break;
                case LOCK:
                    takeLock();
                    break;
                default:
                    waitOnLock();
                    break;
            }
        }

        /** A point goes on: it takes what it takes, and is a step. */
        private void passPoint(int op) {
            countStep();
            int taken = op == YIELD ? 0 : frames.pop();
            if (op == JOIN) {
                Fiber other = fiberOfThing(taken);
                frames.push(other == null ? 0 : other.outcome);
            }
            frames.goOn();
        }

        private Fiber fiberOfThing(int o) {
            Thing thing = world.thingAt(o);
            return thing == null ? null : world.fiberAt(thing.ofFiber);
        }

        private void raiseAtPoint(int number) {
            countStep();
            raise(number);
        }

        private void stop() {
            if (world.rewritten) {
                leaving = true;
                frames.goOn();
            } else {
                stopped = true;
            }
        }

        private void fallAsleep() {
            int many = frames.peek();
            if (many < 1) {
                passPoint(SLEEP);
                return;
            }
            fiber.state = SLEEPING;
            fiber.wakeAt = world.time + Math.min(many, LONGEST_SLEEP);
            stop();
        }

        private void joinFiber() {
            int o = frames.peek();
            Fiber other = fiberOfThing(o);
            if (other == null) {
                raiseAtPoint(o == 0 ? OF_NONE : NOT_ITS_OWN);
            } else if (other.state == ENDED) {
                passPoint(JOIN);
            } else {
                fiber.state = JOINING;
                fiber.target = other.number;
                stop();
            }
        }

        private void takeLock() {
            int o = frames.peek();
            Thing thing = world.thingAt(o);
            if (thing == null) {
                raiseAtPoint(OF_NONE);
            } else if (thing.owner == NONE || thing.owner == fiber.number) {
                thing.owner = fiber.number;
                thing.count++;
                passPoint(LOCK);
            } else {
                fiber.state = LOCKING;
                fiber.target = o;
                thing.queue.add(fiber);
                stop();
            }
        }

        private void waitOnLock() {
            int o = frames.peek();
            Thing thing = world.thingAt(o);
            if (thing == null) {
                raiseAtPoint(OF_NONE);
            } else if (thing.owner != fiber.number) {
                raiseAtPoint(NOT_ITS_OWN);
            } else {
                fiber.state = WAITING;
                fiber.target = o;
                fiber.waitCount = thing.count;
                thing.waiters.add(fiber);
                world.handOn(thing);
                stop();
            }
        }
    }
}
