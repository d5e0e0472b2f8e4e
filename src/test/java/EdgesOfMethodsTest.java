/** PART 1, what a method is found to be: reached, handled, a BACK, SUSPENDABLE, LIVE; one step to either side. */
public final class EdgesOfMethodsTest {
    private static final Checks checks = new Checks();

    public static void main(String[] args) {
        reached();
        byEachJump();
        handlersOfAnInstruction();
        slotsAheadOfIt();
        backs();
        suspendable();
        spendsAhead();
        livesByLoadAndStore();
        livesByWays();
        livesByHandlers();
        noSlotsButThoseThatMustBe();
        statesAtTheirEdges();
        untold();
        checks.finish();
    }

    private static Code code() {
        return new Code(0, 0, 0, 2);
    }

    private static void each(String name, FiberLoom loom, int what, int... wants) {
        for (int i = 0; i < wants.length; i++) {
            checks.due(name + ": instruction(0, " + i + ", " + what + ")", loom.instruction(0, i, what), wants[i]);
        }
        checks.due(name + ": no more", loom.instruction(0, wants.length, what), -1);
    }

    /** "A REACHED instruction": by the next one, by a jump, by a handler, or not at all. */
    private static void reached() {
        each("RETURN ends", Code.loom(code().op(Code.RETURN, Code.RETURN)), 2, 1, 0);
        each("RAISE ends", Code.loom(code().push(1).op(Code.RAISE, Code.RETURN)), 2, 1, 1, 0);
        each("JUMP ends", Code.loom(code().with(Code.JUMP, 2).op(Code.YIELD, Code.RETURN)), 2, 1, 0, 1);
        each("a jump back", Code.loom(code().with(Code.JUMP, 2).op(Code.RETURN).with(Code.JUMP, 1)), 2, 1, 1, 1);
        each("JZERO goes both ways", Code.loom(code().push(0).with(Code.JZERO, 3).op(Code.RETURN, Code.RETURN)), 2, 1, 1, 1, 1);
        each("a handler", Code.loom(code().op(Code.YIELD, Code.RETURN, Code.RETURN).handler(0, 1, 2)), 2, 1, 1, 1);
        each("none of one that isn't reached",
            Code.loom(code().op(Code.RETURN, Code.YIELD, Code.RETURN).handler(1, 2, 2)), 2, 1, 0, 0);
    }

    /** JUMPS are 12 to 16: each reaches where it goes, makes slots LIVE by it, and its row tells the row there. */
    private static void byEachJump() {
        int[] takes = {0, 1, 2, 1, 2};
        for (int op = Code.JUMP; op <= Code.JSAME; op++) {
            Code code = new Code(1, 0, 0, 1).op(Code.YIELD);
            for (int k = 0; k < takes[op - Code.JUMP]; k++) {
                code.op(op >= Code.JNONE ? Code.NONE : Code.PUSH);
            }
            int at = code.here();
            code.with(op, at + 3).op(Code.RETURN, Code.RETURN).with(Code.LOAD, 0).op(Code.RETURN);
            FiberLoom loom = Code.loom(code);
            String name = "jump " + op + ": ";
            checks.due(name + "the next one", loom.instruction(0, at + 1, 2), op == Code.JUMP ? 0 : 1);
            checks.due(name + "the one behind that", loom.instruction(0, at + 2, 2), 0);
            checks.due(name + "where it goes", loom.instruction(0, at + 3, 2), 1);
            checks.due(name + "LIVE there", loom.instruction(0, at + 3, 30), 1);
            checks.due(name + "LIVE at the jump", loom.instruction(0, at, 30), 1);
            checks.due(name + "LIVE at first", loom.instruction(0, 0, 30), 1);
            checks.due(name + "its row", loom.row(0, at + 2, 0), op);
            checks.due(name + "goes to the row", loom.row(0, at + 2, 1), at + 5);
            checks.due(name + "where that begins", loom.row(0, at + 5, 0), Code.LOAD);
        }
    }

    /**
     * "its HANDLERS (those whose FROM isn't behind it and whose TO is)": a RAISE ahead of FROM, at
     * FROM, at TO - 1 and at TO.
     */
    private static void handlersOfAnInstruction() {
        for (int i = 1; i <= 6; i++) {
            Code code = code();
            for (int k = 0; k < i; k++) {
                code.push(40 + k);
            }
            code.op(Code.RAISE);
            while (code.here() < 7) {
                code.op(Code.RETURN);
            }
            code.op(Code.OUT, Code.RETURN).handler(3, 5, 7);
            boolean covered = i == 3 || i == 4;
            Story story = new Story(checks, "RAISE at " + i, 9, code).turns(1, 1);
            story.fiber(0, 1, covered ? 1 : 2).fiber(0, 2, covered ? 0 : 40 + i - 1);
            checks.due("AT is reached by those that it covers", story.loom.instruction(0, 7, 2), i >= 3 ? 1 : 0);
            if (covered) {
                story.output(40 + i - 1);
            } else {
                story.output();
            }
        }
        Code narrow = code().push(7).op(Code.RAISE, Code.OUT, Code.RETURN).handler(1, 2, 2);
        new Story(checks, "one instruction, AT is TO", 9, narrow).turns(1, 1).output(7);
        Code late = code().push(7).op(Code.RAISE, Code.RETURN, Code.OUT, Code.RETURN).handler(1, 2, 3);
        new Story(checks, "AT is behind TO", 9, late).turns(1, 1).output(7);
    }

    /** "the slots as they are ahead of it": a STORE that a handler covers isn't seen at its AT. */
    private static void slotsAheadOfIt() {
        Code code = code().push(1).with(Code.STORE, 0).op(Code.RETURN, Code.DROP, Code.RETURN).handler(1, 2, 3);
        checks.due("UNSET at AT", Code.loom(code).instruction(0, 3, 10), 0);
        Code behind = code().push(1).with(Code.STORE, 0).op(Code.YIELD, Code.RETURN, Code.DROP, Code.RETURN).handler(2, 3, 4);
        checks.due("an N at AT, if it is stored ahead", Code.loom(behind).instruction(0, 4, 10), 1);
        Code both = code().push(1).with(Code.STORE, 0).op(Code.YIELD, Code.RETURN, Code.DROP, Code.RETURN).handler(1, 3, 4);
        checks.due("UNSET if one of them has it so", Code.loom(both).instruction(0, 4, 10), 0);
    }

    /**
     * "BACK is a jump to an instruction that isn't behind it": to the one ahead, itself, the next.
     * One that takes something can't go to itself, so it goes to where that was pushed.
     */
    private static void backs() {
        for (int to = -1; to <= 1; to++) {
            FiberLoom loom = Code.loom(code().op(Code.YIELD).with(Code.JUMP, 1 + to).op(Code.RETURN));
            checks.due("SPEND ahead of 12 to " + to, loom.instruction(0, 1, 3), to < 1 ? 1 : 0);
        }
        for (int op = Code.JZERO; op <= Code.JSAME; op++) {
            for (boolean back : new boolean[] {true, false}) {
                Code code = code().op(Code.NEW, Code.DROP);
                int first = op >= Code.JNONE ? Code.NONE : Code.PUSH;
                code.op(first);
                if (op == Code.JLESS || op == Code.JSAME) {
                    code.op(first);
                }
                int at = code.here();
                code.with(op, back ? 2 : at + 1).op(Code.RETURN);
                FiberLoom loom = Code.loom(code);
                checks.due("SPEND ahead of " + op, loom.instruction(0, at, 3), back ? 1 : 0);
                checks.due("none ahead of it", loom.instruction(0, at - 1, 3), 0);
                checks.due("none behind it", loom.instruction(0, at + 1, 3), 0);
                checks.due("it is SUSPENDABLE", loom.method(0, 6), back ? 1 : 0);
            }
        }
    }

    private static void suspends(String name, int due, Code code) {
        FiberLoom loom = Code.loom(code, new Code(1, 0, 0, 1).op(Code.RETURN));
        checks.due(name, loom.method(0, 6), due);
        checks.due(name + ": the other one", loom.method(1, 6), 0);
    }

    /** "SUSPENDABLE is a method with a reached POINT, BACK or CALL": OPS 31 and 32 are at the edge. */
    private static void suspendable() {
        suspends("WAKE", 0, code().op(Code.NEW).with(Code.WAKE, 0).op(Code.RETURN));
        suspends("YIELD", 1, code().op(Code.YIELD, Code.RETURN));
        suspends("SLEEP", 1, code().push(0).op(Code.SLEEP, Code.RETURN));
        suspends("JOIN", 1, code().op(Code.NONE, Code.JOIN, Code.RETURN));
        suspends("LOCK", 1, code().op(Code.NONE, Code.LOCK, Code.RETURN));
        suspends("WAIT", 1, code().op(Code.NONE, Code.WAIT, Code.RETURN));
        suspends("KEEP", 0, code().op(Code.NONE, Code.NONE).with(Code.KEEP, 0).op(Code.RETURN));
        suspends("CALL of one that isn't", 1, code().push(0).with(Code.CALL, 1).op(Code.RETURN));
        suspends("RETURN", 0, code().op(Code.RETURN));
        suspends("SPAWN", 0, code().push(0).with(Code.SPAWN, 1).op(Code.RETURN));
        suspends("EACH", 0, code().push(0).with(Code.EACH, 1).op(Code.RETURN));
        suspends("a jump to the next", 0, code().with(Code.JUMP, 1).op(Code.RETURN));
        suspends("a jump to itself", 1, code().with(Code.JUMP, 0).op(Code.RETURN));
        for (int op = Code.YIELD; op <= Code.WAIT; op++) {
            suspends("not reached, " + op, 0, code().op(Code.RETURN, op, Code.RETURN));
        }
        suspends("a CALL that isn't reached", 0, code().op(Code.RETURN).with(Code.CALL, 1).op(Code.RETURN));
        suspends("a BACK that isn't reached", 0, code().op(Code.RETURN).with(Code.JUMP, 0).op(Code.RETURN));
    }

    /** "A SPEND stands ahead of each reached BACK and CALL", of no POINT. */
    private static void spendsAhead() {
        Code main = code().with(Code.CALL, 0).op(Code.YIELD).with(Code.JUMP, 3).push(0).with(Code.JZERO, 0)
            .op(Code.RETURN).with(Code.CALL, 0).with(Code.JUMP, 0);
        each("SPENDs", Code.loom(main), 3, 1, 0, 0, 0, 1, 0, 0, 0);
    }

    /** "LIVE .. if that LOADs it; or does not STORE it, and it is LIVE at one to which it goes on". */
    private static void livesByLoadAndStore() {
        Code code = new Code(1, 0, 0, 2).op(Code.YIELD).with(Code.LOAD, 0).op(Code.DROP).push(1).with(Code.STORE, 0)
            .with(Code.LOAD, 0).with(Code.STORE, 1).with(Code.LOAD, 1).op(Code.RETURN);
        FiberLoom loom = Code.loom(code);
        each("slot 0", loom, 30, 1, 1, 0, 0, 0, 1, 0, 0, 0);
        each("slot 1", loom, 31, 0, 0, 0, 0, 0, 0, 0, 1, 0);
    }

    /** ".. LIVE at one to which it goes on or may jump". */
    private static void livesByWays() {
        Code jumps = new Code(2, 0, 0, 2).with(Code.LOAD, 0).with(Code.JZERO, 3).op(Code.RETURN).with(Code.LOAD, 1).op(Code.RETURN);
        each("by the jump alone", Code.loom(jumps), 31, 1, 1, 0, 1, 0);
        Code falls = new Code(2, 0, 0, 2).with(Code.LOAD, 0).with(Code.JZERO, 4).with(Code.LOAD, 1).op(Code.RETURN, Code.RETURN);
        each("by the next alone", Code.loom(falls), 31, 1, 1, 1, 0, 0);
        Code over = new Code(2, 0, 0, 2).with(Code.JUMP, 3).with(Code.LOAD, 1).op(Code.RETURN, Code.RETURN);
        each("a JUMP doesn't go on", Code.loom(over), 31, 0, -1, -1, 0);
        Code loop = new Code(2, 0, 0, 2).op(Code.YIELD).with(Code.LOAD, 1).op(Code.DROP, Code.YIELD).with(Code.JUMP, 0);
        each("round a loop", Code.loom(loop), 31, 1, 1, 1, 1, 1);
        each("and no other slot", Code.loom(loop), 30, 0, 0, 0, 0, 0);
        Code raises = new Code(2, 0, 0, 2).push(1).op(Code.RAISE).with(Code.LOAD, 1).op(Code.RETURN);
        each("a RAISE doesn't go on", Code.loom(raises), 31, 0, 0, -1, -1);
    }

    /** "or it is LIVE at AT of one of its handlers", also where it is STOREd; FROM - 1 to TO. */
    private static void livesByHandlers() {
        Code code = new Code(1, 0, 0, 1).op(Code.YIELD).push(1).with(Code.STORE, 0).op(Code.YIELD).push(2)
            .with(Code.STORE, 0).op(Code.RETURN).op(Code.DROP).with(Code.LOAD, 0).op(Code.RETURN).handler(2, 5, 7);
        each("a handler of 2 to 4", Code.loom(code), 30, 1, 1, 1, 1, 1, 0, 0, 1, 1, 0);
        Code second = new Code(1, 0, 0, 1).op(Code.YIELD, Code.RETURN, Code.DROP, Code.RETURN).op(Code.DROP)
            .with(Code.LOAD, 0).op(Code.RETURN).handler(0, 1, 2).handler(0, 1, 4);
        each("by the second handler", Code.loom(second), 30, 1, 0, 0, 0, 1, 1, 0);
    }

    /** "(No slots but those that must be.)": a loop alone makes none LIVE. */
    private static void noSlotsButThoseThatMustBe() {
        Code loop = new Code(3, 0, 0, 12).op(Code.YIELD).with(Code.LOAD, 1).with(Code.JZERO, 0).with(Code.JUMP, 0);
        FiberLoom loom = Code.loom(loop);
        for (int slot = 0; slot < 12; slot++) {
            each("slot " + slot, loom, 30 + slot, slot == 1 ? 1 : 0, slot == 1 ? 1 : 0, slot == 1 ? 1 : 0, slot == 1 ? 1 : 0);
        }
        Code stored = new Code(0, 0, 0, 1).push(1).with(Code.STORE, 0).op(Code.YIELD).with(Code.JUMP, 0);
        each("STOREd and never LOADed", Code.loom(stored), 30, 0, 0, 0, 0);
        Code unreached = new Code(1, 0, 0, 1).op(Code.YIELD, Code.RETURN).with(Code.LOAD, 0).op(Code.RETURN);
        each("LOADed where it isn't reached", Code.loom(unreached), 30, 0, 0, -1, -1);
    }

    /** "10 + v", "30 + v", "50 + k": with 0, 1, 11 and 12 slots, and 0, 1, 11 and 12 on the stack. */
    private static void statesAtTheirEdges() {
        for (int many : new int[] {0, 1, 11, 12}) {
            Code code = new Code(0, 0, 0, many);
            for (int v = 0; v < many; v++) {
                code.op(v % 2 == 0 ? Code.NONE : Code.PUSH).with(Code.STORE, v);
            }
            for (int v = 0; v < many; v++) {
                code.with(Code.LOAD, v);
            }
            int last = code.here();
            code.op(Code.RETURN);
            FiberLoom loom = Code.loom(code);
            checks.due("how many on the stack", loom.instruction(0, last, 4), many);
            for (int v = -1; v <= 19; v++) {
                boolean there = v >= 0 && v < many;
                int type = there ? v % 2 == 0 ? 2 : 1 : -1;
                String name = " of " + many + ", " + v;
                checks.due("slot" + name, loom.instruction(0, last, 10 + v), type);
                checks.due("LIVE" + name, loom.instruction(0, last, 30 + v), there ? 0 : -1);
                checks.due("LIVE ahead" + name, loom.instruction(0, 2 * many, 30 + v), there ? 1 : -1);
                checks.due("on the stack" + name, loom.instruction(0, last, 50 + v), type);
                checks.due("none on the first one's" + name, loom.instruction(0, 0, 50 + v), -1);
                checks.due("UNSET at first" + name, loom.instruction(0, 0, 10 + v), there ? 0 : -1);
            }
            checks.due("far behind", loom.instruction(0, last, 50 + 32), -1);
            checks.due("far behind", loom.instruction(0, last, 10 + 32), -1);
        }
    }

    /** "NONE for others, and from 4 on if it isn't reached; no such instruction". */
    private static void untold() {
        Code code = code().op(Code.YIELD, Code.RETURN).with(Code.JUMP, 1);
        FiberLoom loom = Code.loom(code);
        int[] reached = {32, 0, 1, 0, 0, -1, -1, -1, -1, -1, 0, 0, -1};
        int[] not = {12, 1, 0, 0, -1, -1, -1, -1, -1, -1, -1, -1, -1};
        for (int what = 0; what < reached.length; what++) {
            checks.due("reached, " + what, loom.instruction(0, 0, what), reached[what]);
            checks.due("not reached, " + what, loom.instruction(0, 2, what), not[what]);
            checks.due("instruction -1, " + what, loom.instruction(0, -1, what), -1);
            checks.due("instruction 3, " + what, loom.instruction(0, 3, what), -1);
            checks.due("method -1, " + what, loom.instruction(-1, 0, what), -1);
            checks.due("method 1, " + what, loom.instruction(1, 0, what), -1);
        }
        for (int odd : new int[] {-1, Integer.MIN_VALUE, Integer.MAX_VALUE}) {
            checks.due("what " + odd, loom.instruction(0, 0, odd), -1);
            checks.due("what " + odd + " of one that isn't reached", loom.instruction(0, 2, odd), -1);
        }
    }
}
