/** Turns: who runs, what it does, and how it stops. */
public final class Promise09TurnsTest {
    private static final Checks checks = new Checks();

    public static void main(String[] args) {
        wrongInputs();
        chosenBySeed();
        arithmetic();
        jumps();
        objects();
        raising();
        callsAndEach();
        limits();
        spending();
        sleeping();
        joining();
        locking();
        waiting();
        waking();
        killing();
        abandoning();
        ending();
        checks.finish();
    }

    private static Code code(int result, int slots) {
        return new Code(0, 0, result, slots);
    }

    private static void wrongInputs() {
        FiberLoom loom = Code.loom(code(0, 0).with(Code.JUMP, 0));
        checks.due("it hasn't begun", loom.turns(0, 1, 1), -1);
        loom.begin(0, 0, 1);
        checks.due("the other one hasn't", loom.turns(1, 1, 1), -1);
        for (int n : new int[] {Integer.MIN_VALUE, -1, 0, 51, Integer.MAX_VALUE}) {
            checks.due("turns(0, " + n + ", 1)", loom.turns(0, n, 1), -1);
        }
        for (int w : new int[] {Integer.MIN_VALUE, -1, 2, Integer.MAX_VALUE}) {
            checks.due("turns(" + w + ", 1, 1)", loom.turns(w, 1, 1), -1);
        }
        checks.due("nothing happened", loom.about(0, 0), 0);
        checks.due("turns(0, 50, 1)", loom.turns(0, 50, 1), 50);
        checks.due("time", loom.about(0, 0), 50);
        checks.due("turns(0, 1, min)", loom.turns(0, 1, Integer.MIN_VALUE), 1);
        checks.due("time", loom.about(0, 0), 51);
    }

    /** Five fibers that yield for ever: who runs is told by the seed alone. */
    private static void chosenBySeed() {
        Code main = code(0, 0);
        for (int k = 1; k < 5; k++) {
            main.push(k).with(Code.SPAWN, 1).op(Code.DROP);
        }
        main.push(0).with(Code.CALL, 1).op(Code.RETURN);
        Code worker = new Code(1, 0, 0, 1).with(Code.LOAD, 0).op(Code.OUT, Code.YIELD).with(Code.JUMP, 0);
        FiberLoom loom = Code.loom(main, worker);
        for (int seed : new int[] {0, 1, -1, 77, 123456789, Integer.MIN_VALUE, Integer.MAX_VALUE}) {
            for (int w = 0; w < 2; w++) {
                loom.begin(w, 0, 100);
                loom.turns(w, 1, 5);
                int chance = seed;
                java.util.List<Integer> row = new java.util.ArrayList<>(java.util.List.of(1, 2, 3, 4, 0));
                checks.due("turns", loom.turns(w, 40, seed), 40);
                for (int k = 0; k < 40; k++) {
                    chance = chance * 1103515245 + 12345;
                    int chosen = row.remove((chance >>> 16) % row.size());
                    row.add(chosen);
                    checks.due("put out by " + chosen, loom.output(w, k + 1), chosen);
                }
                for (int k = 0; k < 5; k++) {
                    checks.due("ready row " + k, loom.about(w, 20 + k), row.get(k));
                }
            }
        }
    }

    private static void calculated(int op, int a, int b, int due) {
        Story story = new Story(checks, "op " + op, 5, code(1, 0).push(a).push(b).op(op, Code.RETURN));
        story.turns(1, 1).fiber(0, 1, 1).fiber(0, 2, due).fiber(0, 3, 4);
    }

    private static void arithmetic() {
        int least = Integer.MIN_VALUE;
        calculated(Code.ADD, Integer.MAX_VALUE, 1, least);
        calculated(Code.SUB, least, 1, Integer.MAX_VALUE);
        calculated(Code.SUB, 3, 5, -2);
        calculated(Code.MUL, 65537, 65537, 131073);
        calculated(Code.DIV, -7, 2, -3);
        calculated(Code.DIV, 7, -2, -3);
        calculated(Code.DIV, least, -1, least);
        calculated(Code.REM, -7, 2, -1);
        calculated(Code.REM, 7, -2, 1);
        calculated(Code.REM, least, -1, 0);
        for (int op : new int[] {Code.DIV, Code.REM}) {
            new Story(checks, "by 0", 5, code(1, 0).push(4).push(0).op(op, Code.RETURN))
                .turns(1, 1).fiber(0, 1, 2).fiber(0, 2, -2).fiber(0, 0, 5);
        }
        new Story(checks, "moves", 5, code(1, 1).push(1).push(2).op(Code.SWAP, Code.OUT, Code.COPY, Code.OUT)
            .push(9).op(Code.DROP).with(Code.STORE, 0).with(Code.LOAD, 0).op(Code.RETURN))
            .turns(1, 1).output(1, 2).fiber(0, 2, 2);
    }

    private static void jumped(String name, boolean due, int op, Code code) {
        int at = code.here();
        code.with(op, at + 3).push(0).with(Code.JUMP, at + 4).push(1).op(Code.OUT, Code.RETURN);
        new Story(checks, name, 5, code).turns(1, 1).output(due ? 1 : 0);
    }

    private static void jumps() {
        jumped("12", true, Code.JUMP, code(0, 0));
        jumped("13 of 0", true, Code.JZERO, code(0, 0).push(0));
        jumped("13 of -1", false, Code.JZERO, code(0, 0).push(-1));
        jumped("14 of less", true, Code.JLESS, code(0, 0).push(-1).push(0));
        jumped("14 of the same", false, Code.JLESS, code(0, 0).push(3).push(3));
        jumped("14 of more", false, Code.JLESS, code(0, 0).push(3).push(Integer.MIN_VALUE));
        jumped("15 of NONE", true, Code.JNONE, code(0, 0).op(Code.NONE));
        jumped("15 of SELF", false, Code.JNONE, code(0, 0).op(Code.SELF));
        jumped("16 of SELF", true, Code.JSAME, code(0, 0).op(Code.SELF, Code.SELF));
        jumped("16 of another", false, Code.JSAME, code(0, 0).op(Code.SELF, Code.NEW));
    }

    private static void objects() {
        Code main = code(0, 2);
        main.op(Code.NEW).with(Code.STORE, 0);
        main.with(Code.LOAD, 0).push(8).with(Code.PUT, 3).with(Code.LOAD, 0).op(Code.SELF).with(Code.KEEP, 2);
        main.with(Code.LOAD, 0).with(Code.GET, 3).op(Code.OUT).with(Code.LOAD, 0).with(Code.FETCH, 2);
        main.push(5).with(Code.PUT, 0).with(Code.LOAD, 0).with(Code.FETCH, 0).with(Code.GET, 0).op(Code.OUT, Code.RETURN);
        new Story(checks, "fields", 5, main).turns(1, 1).output(8).fiber(0, 2, -1).object(2, 3, 8)
            .object(2, 6, 1).object(1, 0, 5).object(2, 0, 0);
        for (int op : new int[] {Code.GET, Code.FETCH}) {
            raises("of NONE " + op, -1, 2, code(0, 0).op(Code.NONE).with(op, 0).op(Code.DROP, Code.RETURN));
        }
        raises("of NONE, PUT", -1, 3, code(0, 0).op(Code.NONE).push(1).with(Code.PUT, 0).op(Code.RETURN));
        raises("of NONE, KEEP", -1, 3, code(0, 0).op(Code.NONE, Code.SELF).with(Code.KEEP, 0).op(Code.RETURN));
        for (int op : new int[] {Code.KILL, Code.FREE, Code.WAKE, Code.LOCK, Code.WAIT}) {
            raises("of NONE " + op, -1, 2, code(0, 0).op(Code.NONE).op(op, Code.RETURN));
        }
        raises("of NONE, JOIN", -1, 2, code(0, 0).op(Code.NONE, Code.JOIN, Code.DROP, Code.RETURN));
        for (int op : new int[] {Code.FREE, Code.WAKE, Code.WAIT}) {
            raises("not the owner " + op, -3, 2, code(0, 0).op(Code.NEW).op(op, Code.RETURN));
        }
        raises("no fiber, KILL", -3, 2, code(0, 0).op(Code.NEW, Code.KILL, Code.RETURN));
        raises("no fiber, JOIN", -3, 2, code(0, 0).op(Code.NEW, Code.JOIN, Code.DROP, Code.RETURN));
    }

    private static void raises(String name, int number, int steps, Code code) {
        new Story(checks, name, 5, code).turns(1, 1).fiber(0, 1, 2).fiber(0, 2, number).fiber(0, 3, steps);
    }

    private static void raising() {
        raises("RAISE", 77, 2, code(0, 0).push(77).op(Code.RAISE));
        Code caught = code(1, 0).push(1).push(2).push(77).op(Code.RAISE, Code.OUT).push(5).op(Code.RETURN);
        caught.handler(0, 3, 4).handler(3, 4, 4);
        new Story(checks, "the stack goes", 5, caught).turns(1, 1).output(77).fiber(0, 2, 5);
        Code first = code(0, 0).push(7).op(Code.RAISE, Code.OUT, Code.RETURN, Code.DROP, Code.RETURN);
        first.handler(1, 2, 4).handler(1, 2, 2);
        new Story(checks, "the first handler", 5, first).turns(1, 1).output().fiber(0, 1, 1);
        Code below = code(0, 0).push(3).with(Code.CALL, 1).op(Code.RETURN, Code.OUT, Code.RETURN).handler(1, 2, 3);
        Code raiser = new Code(1, 0, 0, 1).with(Code.LOAD, 0).op(Code.RAISE);
        new Story(checks, "by the CALL below", 5, below, raiser).turns(1, 1).output(3).fiber(0, 3, 6);
        Code inEach = code(0, 0).push(3).with(Code.EACH, 1).op(Code.RETURN, Code.OUT, Code.RETURN).handler(1, 2, 3);
        Code second = new Code(1, 0, 0, 1).with(Code.LOAD, 0).op(Code.OUT).with(Code.LOAD, 0).with(Code.JZERO, 6).push(-6)
            .op(Code.RAISE, Code.RETURN);
        new Story(checks, "by the EACH below", 5, inEach, second).turns(1, 1).output(0, 1, -6);
        Code again = code(0, 0).push(4).op(Code.RAISE, Code.RAISE).handler(0, 2, 2);
        raises("raised in a handler", 4, 3, again);
    }

    private static void callsAndEach() {
        Code main = code(2, 0).push(10).op(Code.SELF).push(4).with(Code.CALL, 1).op(Code.OUT, Code.SELF, Code.RETURN);
        Code callee = new Code(3, 2, 1, 4).with(Code.LOAD, 0).with(Code.LOAD, 2).op(Code.SUB, Code.RETURN);
        new Story(checks, "params", 5, main, callee).turns(1, 1).output(6).fiber(0, 1, 1).fiber(0, 2, 0);
        int[] many = {-3, 0, 1, 4, 5, 1000};
        for (int n : many) {
            Code each = code(0, 0).push(n).with(Code.EACH, 1).op(Code.RETURN);
            Code put = new Code(1, 0, 0, 1).with(Code.LOAD, 0).op(Code.OUT, Code.RETURN);
            int calls = Math.max(0, Math.min(4, n));
            Story story = new Story(checks, "EACH " + n, 5, each, put).turns(1, 1).fiber(0, 3, 3 + 3 * calls);
            story.output(java.util.Arrays.copyOf(new int[] {0, 1, 2, 3}, calls));
        }
    }

    private static void limits() {
        Code deep = new Code(1, 0, 0, 1).with(Code.LOAD, 0).op(Code.OUT).with(Code.LOAD, 0).push(1).op(Code.ADD)
            .with(Code.CALL, 1).op(Code.RETURN);
        Code main = code(0, 0).push(2).with(Code.CALL, 1).op(Code.RETURN, Code.OUT, Code.RETURN).handler(0, 2, 3);
        int[] wants = new int[30];
        for (int k = 0; k < 29; k++) {
            wants[k] = k + 2;
        }
        wants[29] = -4;
        new Story(checks, "30 frames", 100, main, deep).turns(1, 1).output(wants).fiber(0, 1, 1);
        Code put = new Code(1, 0, 0, 1).with(Code.LOAD, 0).op(Code.OUT, Code.RETURN);
        for (int depth = 27; depth <= 29; depth++) {
            Code starts = code(0, 0).push(depth).with(Code.CALL, 1).op(Code.RETURN, Code.OUT, Code.RETURN).handler(0, 2, 3);
            Code inner = new Code(1, 0, 0, 1).with(Code.LOAD, 0).with(Code.JZERO, 7).with(Code.LOAD, 0).push(1)
                .op(Code.SUB).with(Code.CALL, 1).op(Code.RETURN).push(2).with(Code.EACH, 2).op(Code.RETURN);
            Story story = new Story(checks, "EACH with " + (depth + 2) + " frames", 100, starts, inner, put).turns(1, 1);
            if (depth < 28) {
                story.output(0, 1);
            } else {
                story.output(-4);
            }
        }
        Code makes = code(0, 1).push(0).with(Code.STORE, 0).op(Code.NEW, Code.DROP).with(Code.LOAD, 0).push(1)
            .op(Code.ADD).with(Code.STORE, 0).with(Code.JUMP, 2).op(Code.OUT).with(Code.LOAD, 0).op(Code.OUT)
            .with(Code.SPAWN, 0).op(Code.DROP, Code.RETURN, Code.OUT, Code.RETURN).handler(2, 9, 9).handler(12, 13, 15);
        new Story(checks, "300 objects", 100, makes).turns(9, 3).output(-5, 299, -5).about(2, 300);
        Code fills = code(0, 0).op(Code.NEW, Code.DROP).with(Code.JUMP, 0).op(Code.DROP).with(Code.CALL, 1)
            .op(Code.RETURN).handler(0, 3, 3);
        Code tries = code(0, 0).op(Code.NEW, Code.DROP, Code.RETURN, Code.OUT, Code.RETURN).handler(0, 1, 3);
        new Story(checks, "raised by the first row", 100, fills, tries).turns(9, 3).output(-5).fiber(0, 1, 1);
        Code spawns = code(0, 1).push(0).with(Code.STORE, 0).with(Code.SPAWN, 1).op(Code.DROP).with(Code.LOAD, 0)
            .push(1).op(Code.ADD).with(Code.STORE, 0).with(Code.JUMP, 2).op(Code.OUT).with(Code.LOAD, 0)
            .op(Code.OUT, Code.NEW, Code.DROP, Code.RETURN).handler(2, 9, 9);
        new Story(checks, "24 fibers", 100, spawns, code(0, 0).op(Code.RETURN)).turns(1, 1).output(-5, 23)
            .about(1, 24).about(2, 25).turns(50, 23);
        Code put500 = code(0, 0).out(1).with(Code.JUMP, 0);
        new Story(checks, "500 numbers", 100, put500).turns(10, 10).about(3, 1010);
    }

    private static void spending() {
        Code loop = code(0, 1).push(5).with(Code.STORE, 0).with(Code.LOAD, 0).push(1).op(Code.SUB, Code.COPY)
            .with(Code.STORE, 0).op(Code.OUT).push(0).with(Code.LOAD, 0).with(Code.JLESS, 2).op(Code.RETURN);
        new Story(checks, "quantum 2", 2, loop).turns(1, 1).output(4, 3, 2).fiber(0, 6, 1).fiber(0, 0, 0)
            .fiber(0, 3, 28).turns(1, 1).output(4, 3, 2, 1, 0).fiber(0, 0, 5).about(5, 28).turns(3, 0);
        Code calls = code(0, 0).with(Code.CALL, 1).with(Code.CALL, 1).op(Code.RETURN);
        Code called = code(0, 0).out(1).op(Code.RETURN);
        new Story(checks, "a CALL spends", 1, calls, called).turns(1, 1).output(1).frame(0, 0, 1, 1).fiber(0, 4, 1)
            .fiber(0, 3, 4).turns(1, 1).output(1, 1).fiber(0, 3, 9);
        Code on = code(0, 0).with(Code.JUMP, 1).with(Code.JUMP, 2).with(Code.JUMP, 3).op(Code.RETURN);
        new Story(checks, "a jump on spends nothing", 1, on).turns(1, 1).fiber(0, 0, 5);
    }

    private static void sleeping() {
        for (int n : new int[] {Integer.MIN_VALUE, -1, 0}) {
            new Story(checks, "SLEEP " + n, 5, code(0, 0).push(n).op(Code.SLEEP, Code.RETURN)).turns(1, 1)
                .fiber(0, 0, 5).fiber(0, 3, 3);
        }
        new Story(checks, "SLEEP 1", 5, code(0, 0).push(1).op(Code.SLEEP, Code.RETURN)).turns(1, 1).fiber(0, 0, 3)
            .fiber(0, 8, 1).fiber(0, 3, 1).turns(1, 1).fiber(0, 0, 5).fiber(0, 3, 3);
        new Story(checks, "SLEEP 3", 5, code(0, 0).push(3).op(Code.SLEEP, Code.RETURN)).turns(1, 1).fiber(0, 8, 3)
            .turns(2, 0).fiber(0, 8, 1).fiber(0, 0, 3).turns(1, 1).fiber(0, 0, 5).fiber(0, 8, 0);
        Story longest = new Story(checks, "SLEEP 5000", 5, code(0, 0).push(5000).op(Code.SLEEP, Code.RETURN));
        longest.turns(1, 1).fiber(0, 8, 1000);
        for (int k = 0; k < 19; k++) {
            longest.turns(50, 0);
        }
        longest.turns(49, 0).fiber(0, 8, 1).turns(1, 1).fiber(0, 0, 5);
        Code main = code(0, 0).with(Code.SPAWN, 1).op(Code.DROP).with(Code.SPAWN, 1).op(Code.DROP).push(2)
            .op(Code.SLEEP, Code.RETURN);
        Code sleeper = code(0, 0).push(9).op(Code.SLEEP, Code.RETURN);
        new Story(checks, "by numbers", 5, main, sleeper).turns(1, 1).about(4, 2).turns(2, 2);
    }

    private static void joining() {
        Code main = code(0, 0).with(Code.SPAWN, 1).op(Code.JOIN, Code.OUT).push(2).with(Code.SPAWN, 2)
            .op(Code.COPY, Code.YIELD, Code.JOIN, Code.OUT, Code.JOIN, Code.OUT, Code.RETURN);
        Code gives = code(1, 0).push(44).op(Code.RETURN);
        Code fails = new Code(1, 0, 0, 1).with(Code.LOAD, 0).op(Code.RAISE);
        Story story = new Story(checks, "JOIN", 5, main, gives, fails);
        story.turns(1, 1).fiber(0, 0, 4).fiber(0, 9, 1).turns(1, 1).fiber(0, 0, 0).fiber(0, 6, 1).fiber(1, 2, 44);
        story.turns(9, 3).output(44, 2, 2).fiber(2, 1, 2).fiber(2, 2, 2);
        Code own = code(0, 0).op(Code.SELF, Code.JOIN, Code.OUT, Code.RETURN);
        new Story(checks, "JOIN of itself", 5, own).turns(1, 1).fiber(0, 0, 4).fiber(0, 9, 0).about(8, 1).turns(5, 0);
        Code refs = code(0, 0).with(Code.SPAWN, 1).op(Code.JOIN, Code.OUT, Code.RETURN);
        new Story(checks, "an R is no OUTCOME", 5, refs, code(2, 0).op(Code.SELF, Code.RETURN)).turns(9, 3).output(0);
    }

    /** Main holds the lock, twice, while two others come; they have it in their order. */
    private static void locking() {
        Code main = code(0, 1).op(Code.NEW, Code.COPY).with(Code.STORE, 0).op(Code.LOCK).with(Code.LOAD, 0).op(Code.LOCK);
        main.with(Code.LOAD, 0).push(1).with(Code.SPAWN, 1).op(Code.DROP).with(Code.LOAD, 0).push(2).with(Code.SPAWN, 1)
            .op(Code.DROP).push(4).op(Code.SLEEP).with(Code.LOAD, 0).op(Code.FREE, Code.YIELD);
        main.with(Code.LOAD, 0).op(Code.FREE, Code.RETURN);
        Code worker = new Code(2, 1, 0, 2).with(Code.LOAD, 0).op(Code.LOCK).with(Code.LOAD, 1).op(Code.OUT)
            .with(Code.LOAD, 0).op(Code.FREE, Code.RETURN);
        Story story = new Story(checks, "LOCK", 5, main, worker);
        story.turns(1, 1).object(2, 8, 0).object(2, 9, 2).turns(2, 2).object(2, 10, 2);
        int first = story.loom.object(0, 2, 20);
        story.object(2, 21, 3 - first).fiber(1, 0, 1).fiber(1, 9, 2).fiber(2, 0, 1).fiber(2, 9, 2).fiber(1, 3, 1);
        story.turns(1, 0).turns(1, 1).object(2, 8, 0).object(2, 9, 1).object(2, 10, 2);
        story.turns(1, 1).object(2, 8, first).object(2, 9, 1).object(2, 10, 1).fiber(first, 0, 0).fiber(first, 6, 1);
        story.turns(1, 1).object(2, 8, 3 - first).object(2, 10, 0).output(first).fiber(first, 0, 5);
        story.turns(5, 1).object(2, 8, -1).object(2, 9, 0).output(first, 3 - first).fiber(0, 0, 5);
    }

    private static void waiting() {
        Code main = code(0, 1).op(Code.NEW, Code.COPY).with(Code.STORE, 0).with(Code.SPAWN, 1).op(Code.DROP, Code.YIELD);
        main.with(Code.LOAD, 0).op(Code.LOCK).with(Code.LOAD, 0).with(Code.WAKE, 0).op(Code.YIELD).with(Code.LOAD, 0)
            .op(Code.FREE, Code.RETURN);
        Code worker = new Code(1, 1, 0, 1).with(Code.LOAD, 0).op(Code.LOCK).with(Code.LOAD, 0).op(Code.LOCK)
            .with(Code.LOAD, 0).op(Code.WAIT).out(5).op(Code.RETURN);
        Story story = new Story(checks, "WAIT", 5, main, worker).turns(1, 1);
        FiberLoom loom = story.loom;
        for (int k = 0; k < 9 && loom.object(0, 2, 11) == 0; k++) {
            story.turns(1, 1);
        }
        if (loom.fiber(0, 0, 0) == 0) {
            story.object(2, 11, 1).object(2, 50, 1).object(2, 8, -1).object(2, 9, 0).fiber(1, 0, 2).fiber(1, 9, 2);
            for (int k = 0; k < 9 && loom.fiber(0, 1, 0) == 2; k++) {
                story.turns(1, 1);
            }
            story.object(2, 11, 0).object(2, 10, 1).object(2, 20, 1).object(2, 8, 0).fiber(1, 0, 1).fiber(1, 9, 2);
            story.turns(1, 1).object(2, 8, 1).object(2, 9, 2).fiber(1, 6, 1).fiber(0, 0, 5);
            story.turns(1, 1).output(5).object(2, 8, -1).object(2, 9, 0);
        }
        checks.due("the story was told", loom.about(0, 3), 1);
    }

    /** Main waits for three to wait, then wakes one, then all. */
    private static void waking() {
        Code main = code(0, 1).op(Code.NEW, Code.COPY).with(Code.STORE, 0).push(1).with(Code.SPAWN, 1).op(Code.DROP);
        for (int k = 2; k < 5; k++) {
            main.with(Code.LOAD, 0).push(k).with(Code.SPAWN, 1).op(Code.DROP);
        }
        main.push(6).op(Code.SLEEP);
        main.with(Code.LOAD, 0).op(Code.LOCK).with(Code.LOAD, 0).with(Code.WAKE, 0).with(Code.LOAD, 0).op(Code.FREE);
        main.push(4).op(Code.SLEEP);
        main.with(Code.LOAD, 0).op(Code.LOCK).with(Code.LOAD, 0).with(Code.WAKE, 1).with(Code.LOAD, 0).op(Code.FREE, Code.RETURN);
        Code worker = new Code(2, 1, 0, 2).with(Code.LOAD, 0).op(Code.LOCK).with(Code.LOAD, 0).op(Code.WAIT)
            .with(Code.LOAD, 1).op(Code.OUT).with(Code.LOAD, 0).op(Code.FREE, Code.RETURN);
        Story story = new Story(checks, "WAKE", 5, main, worker).turns(5, 5).object(2, 11, 4).object(2, 8, -1);
        int[] order = new int[4];
        for (int k = 0; k < 4; k++) {
            order[k] = story.loom.object(0, 2, 50 + k);
        }
        story.turns(1, 0).turns(1, 1).object(2, 11, 3).object(2, 8, order[0]).about(20, order[0]);
        story.turns(1, 1).output(order[0]).object(2, 8, -1).turns(2, 0).turns(1, 1);
        story.object(2, 11, 0).object(2, 10, 2).object(2, 8, order[1]).object(2, 20, order[2]).object(2, 21, order[3]);
        story.turns(4, 3).output(order);
        raises("WAKE with no one", 7, 8, code(0, 1).op(Code.NEW, Code.COPY).with(Code.STORE, 0).op(Code.LOCK)
            .with(Code.LOAD, 0).with(Code.WAKE, 0).push(7).op(Code.RAISE));
    }

    /** A worker does what it is told and is killed in the fourth turn; DEATH is put out. */
    private static Story killed(String name, Code worker) {
        Code main = code(0, 1).op(Code.NEW, Code.COPY).with(Code.STORE, 0).with(Code.SPAWN, 1).with(Code.LOAD, 0)
            .op(Code.SWAP).push(3).op(Code.SLEEP, Code.COPY, Code.KILL, Code.KILL, Code.DROP).push(50)
            .op(Code.SLEEP, Code.RETURN);
        return new Story(checks, name, 5, main, worker).turns(4, 3);
    }

    private static Code doomed() {
        return new Code(1, 1, 0, 1);
    }

    private static void killing() {
        Code sleeper = doomed().push(900).op(Code.SLEEP, Code.RETURN, Code.OUT).push(1).op(Code.SLEEP, Code.RETURN)
            .handler(0, 2, 3);
        killed("KILL of one SLEEPING", sleeper).fiber(1, 5, 1).fiber(1, 0, 0).fiber(1, 6, 0).fiber(1, 8, 0)
            .turns(1, 1).output(-9).fiber(1, 1, 2).fiber(1, 2, -9).fiber(1, 3, 5);
        Code joiner = doomed().op(Code.SELF, Code.JOIN, Code.OUT, Code.RETURN);
        killed("KILL of one JOINING", joiner).fiber(1, 0, 0).fiber(1, 9, -1).turns(1, 1).fiber(1, 2, -9).fiber(1, 3, 2);
        Code quick = code(0, 0).with(Code.SPAWN, 1).push(2).op(Code.SLEEP, Code.KILL, Code.RETURN);
        Code passes = code(0, 0).push(1).op(Code.SLEEP).out(3).op(Code.YIELD).out(4).op(Code.RETURN);
        new Story(checks, "KILL of one READY and PASSING", 5, quick, passes).turns(1, 1).turns(1, 1).turns(1, 1)
            .fiber(1, 5, 1).fiber(1, 0, 0).fiber(1, 6, 1).turns(1, 1).output(3).fiber(1, 2, -9).fiber(1, 3, 5);
        Code waiter = doomed().with(Code.LOAD, 0).op(Code.LOCK).with(Code.LOAD, 0).op(Code.WAIT, Code.RETURN, Code.OUT)
            .with(Code.LOAD, 0).op(Code.FREE).out(8).op(Code.RETURN).handler(2, 4, 5);
        killed("KILL of one WAITING", waiter).fiber(1, 0, 0).fiber(1, 6, 0).object(2, 8, 1).object(2, 9, 1)
            .object(2, 11, 0).turns(1, 1).output(-9, 8).object(2, 8, -1).fiber(1, 1, 1);
        killedInQueue();
        Code own = code(0, 0).op(Code.SELF, Code.KILL).out(1).with(Code.JUMP, 2);
        new Story(checks, "KILL of itself", 5, own).turns(1, 1).output(1).fiber(0, 2, -9).fiber(0, 3, 4);
        Code dead = code(0, 0).with(Code.SPAWN, 1).op(Code.COPY, Code.JOIN, Code.DROP, Code.KILL, Code.RETURN);
        new Story(checks, "KILL of one that ENDED", 5, dead, code(0, 0).op(Code.RETURN)).turns(3, 3).fiber(1, 5, 0);
        Code fresh = code(0, 0).with(Code.SPAWN, 1).op(Code.KILL, Code.RETURN);
        new Story(checks, "KILL of a new one", 5, fresh, code(0, 0).out(1).op(Code.YIELD, Code.RETURN)).turns(1, 1)
            .fiber(1, 5, 1).fiber(1, 4, 1).turns(1, 1).output(1).fiber(1, 2, -9).fiber(1, 3, 3);
    }

    /** One that came by LOCK leaves the queue; one that was woken stays, and passes its WAIT. */
    private static void killedInQueue() {
        Code main = code(0, 1).op(Code.NEW, Code.COPY).with(Code.STORE, 0).with(Code.SPAWN, 1).push(3).op(Code.SLEEP);
        main.with(Code.LOAD, 0).op(Code.LOCK).with(Code.LOAD, 0).with(Code.WAKE, 1).op(Code.COPY, Code.KILL).push(3)
            .op(Code.SLEEP).with(Code.LOAD, 0).op(Code.FREE, Code.DROP, Code.RETURN);
        Code waiter = doomed().with(Code.LOAD, 0).op(Code.LOCK).with(Code.LOAD, 0).op(Code.WAIT).out(4).op(Code.YIELD, Code.RETURN);
        new Story(checks, "KILL of one that was woken", 5, main, waiter).turns(4, 3).fiber(1, 0, 1).fiber(1, 5, 1)
            .object(2, 20, 1).turns(3, 1).fiber(1, 6, 1).fiber(1, 0, 0).object(2, 8, 1).turns(1, 1).output(4)
            .fiber(1, 2, -9).object(2, 8, -1);
        Code holds = code(0, 1).op(Code.NEW, Code.COPY).with(Code.STORE, 0).op(Code.LOCK).with(Code.LOAD, 0)
            .with(Code.SPAWN, 1).push(3).op(Code.SLEEP, Code.KILL).push(3).op(Code.SLEEP, Code.RETURN);
        Code locks = doomed().with(Code.LOAD, 0).op(Code.LOCK).out(4).op(Code.RETURN);
        new Story(checks, "KILL of one LOCKING", 5, holds, locks).turns(2, 2).object(2, 10, 1).turns(2, 1)
            .object(2, 10, 0).fiber(1, 0, 0).fiber(1, 9, -1).fiber(1, 6, 0).turns(1, 1).output().fiber(1, 2, -9);
    }

    /** A killed one in a queue whose lock isn't freed is abandoned in the twelfth turn behind it. */
    private static void abandoning() {
        Code main = code(0, 1).op(Code.NEW, Code.COPY).with(Code.STORE, 0).with(Code.SPAWN, 1).push(3).op(Code.SLEEP);
        main.with(Code.LOAD, 0).op(Code.LOCK).op(Code.COPY, Code.KILL, Code.JOIN, Code.OUT, Code.RETURN);
        Code waiter = doomed().op(Code.NEW, Code.LOCK).with(Code.LOAD, 0).op(Code.LOCK).with(Code.LOAD, 0)
            .op(Code.WAIT).out(4).op(Code.RETURN);
        Story story = new Story(checks, "ABANDONED", 5, main, waiter).turns(4, 3).fiber(1, 0, 1).fiber(1, 5, 1);
        story.object(4, 8, 1).turns(11, 0).fiber(1, 0, 1).fiber(0, 0, 4).turns(1, 1).fiber(1, 0, 5).fiber(1, 1, 3)
            .fiber(1, 2, -9).fiber(1, 4, 0).fiber(1, 9, -1).object(2, 10, 0).object(4, 8, -1).output(-9);
        checks.due("nothing is packed", story.loom.packed(1, 0, -1) + story.loom.packed(1, 2, -1), 0);
        abandonedFirst();
        abandonedReady();
    }

    /** Fiber 0 waits, is killed by the one that owns the lock then, and is abandoned. */
    private static void abandonedFirst() {
        Code main = code(0, 0).op(Code.SELF, Code.LOCK, Code.SELF).with(Code.SPAWN, 1).op(Code.DROP, Code.SELF, Code.WAIT)
            .op(Code.RETURN);
        Code killer = new Code(1, 1, 0, 1).with(Code.LOAD, 0).op(Code.LOCK).with(Code.LOAD, 0).op(Code.KILL).push(99)
            .op(Code.SLEEP, Code.RETURN);
        new Story(checks, "fiber 0 ABANDONED", 5, main, killer).turns(1, 1).turns(1, 1).fiber(0, 0, 1).turns(11, 0)
            .fiber(0, 0, 1).object(1, 20, 0).turns(1, 0).fiber(0, 0, 5).fiber(0, 1, 3).object(1, 10, 0).object(1, 8, 1);
    }

    /** Two that are READY, one of them PASSING, are killed and never chosen. */
    private static void abandonedReady() {
        Code main = code(0, 2).with(Code.SPAWN, 1).with(Code.STORE, 0).with(Code.SPAWN, 1).with(Code.STORE, 1)
            .op(Code.YIELD).with(Code.LOAD, 0).op(Code.KILL).with(Code.LOAD, 1).op(Code.KILL, Code.YIELD)
            .with(Code.JUMP, 9);
        Code worker = code(0, 0).op(Code.SELF, Code.LOCK, Code.YIELD, Code.RETURN);
        Story story = new Story(checks, "READY ones ABANDONED", 1, main, worker).run(0).run(1).run(0);
        story.fiber(1, 5, 1).fiber(1, 6, 1).fiber(2, 5, 1).fiber(2, 6, 0).fiber(2, 4, 1).about(4, 3);
        for (int k = 0; k < 11; k++) {
            story.run(0).fiber(1, 0, 0).fiber(2, 0, 0);
        }
        story.turns(1, 1).fiber(1, 1, 3).fiber(1, 6, 0).fiber(1, 4, 0).fiber(2, 1, 3).fiber(2, 4, 0).about(4, 1);
        story.object(2, 8, -1).object(2, 9, 0).frame(2, 0, 0, 0).fiber(1, 5, 1);
    }

    private static void ending() {
        Code main = code(0, 2).op(Code.NEW).with(Code.STORE, 0).op(Code.NEW).with(Code.STORE, 1);
        main.with(Code.LOAD, 1).op(Code.LOCK).with(Code.LOAD, 0).op(Code.LOCK);
        for (int k = 0; k < 4; k++) {
            main.with(Code.LOAD, k % 2).op(Code.SELF).with(Code.SPAWN, 1 + k / 2).op(Code.DROP);
        }
        main.push(8).op(Code.SLEEP).push(3).op(Code.RAISE);
        Code locks = new Code(2, 3, 0, 2).with(Code.LOAD, 0).op(Code.LOCK).op(Code.YIELD, Code.RETURN);
        Code joins = new Code(2, 3, 0, 2).with(Code.LOAD, 1).op(Code.JOIN, Code.OUT, Code.RETURN);
        Story story = new Story(checks, "it ENDS", 5, main, locks, joins).turns(8, 5).object(2, 10, 1).object(3, 10, 1);
        story.about(4, 0).turns(1, 1).fiber(0, 1, 2).fiber(0, 2, 3).object(2, 8, 1).object(3, 8, 2).about(4, 4);
        for (int k = 0; k < 4; k++) {
            story.about(20 + k, k + 1).fiber(k + 1, 6, 1);
        }
        story.turns(9, 6).output(3, 3).object(2, 8, -1).object(3, 8, -1).fiber(0, 9, -1);
    }
}
