import java.util.Random;

/** What is told of an instruction: its state, and which slots are live. */
public final class Promise06InstructionTest {
    public static void main(String[] args) {
        Checks checks = new Checks();
        samples(checks);
        wrongInputs(checks);
        lives(checks);
        merged(checks);
        backs(checks);
        byChance(checks);
        checks.finish();
    }

    private static void samples(Checks checks) {
        for (Code[] codes : new Code[][] {Samples.joined(), Samples.deep(), Samples.mixed()}) {
            new Compare(checks, Code.loom(codes), new Model(codes)).methods();
        }
    }

    private static void wrongInputs(Checks checks) {
        FiberLoom loom = Code.loom(Samples.deep());
        int[] odd = {Integer.MIN_VALUE, -1, 5, 9, 15, 29, 35, 49, 52, 53, 100, Integer.MAX_VALUE};
        for (int what : odd) {
            checks.due("instruction(1, 2, " + what + ")", loom.instruction(1, 2, what), -1);
        }
        checks.due("the last on the stack", loom.instruction(1, 2, 51), 1);
        checks.due("the first on the stack", loom.instruction(1, 2, 50), 2);
        for (int what = 0; what < 60; what++) {
            for (int i : new int[] {-1, 8, Integer.MIN_VALUE, Integer.MAX_VALUE}) {
                checks.due("instruction(1, " + i + ", " + what + ")", loom.instruction(1, i, what), -1);
            }
            checks.due("instruction(2, 0, " + what + ")", loom.instruction(2, 0, what), -1);
            checks.due("instruction(-1, 0, " + what + ")", loom.instruction(-1, 0, what), -1);
        }
    }

    /** A STORE ends a slot's life, but not where a handler needs what was ahead of it. */
    private static void lives(Checks checks) {
        Code code = new Code(2, 0, 0, 2);
        code.push(1).with(Code.STORE, 0).with(Code.LOAD, 0).op(Code.OUT, Code.RETURN);
        FiberLoom loom = Code.loom(code);
        int[] wants = {0, 0, 1, 0, 0};
        for (int i = 0; i < wants.length; i++) {
            checks.due("slot 0 at " + i, loom.instruction(0, i, 30), wants[i]);
            checks.due("slot 1 at " + i, loom.instruction(0, i, 31), 0);
        }
        code.op(Code.DROP).with(Code.LOAD, 0).op(Code.OUT, Code.RETURN).handler(1, 2, 5);
        loom = Code.loom(code);
        wants = new int[] {1, 1, 1, 0, 0, 1, 1, 0, 0};
        for (int i = 0; i < wants.length; i++) {
            checks.due("with a handler, slot 0 at " + i, loom.instruction(0, i, 30), wants[i]);
        }
        checks.due("told with STORE", loom.instruction(0, 1, 1), 0);
        checks.due("told with nothing", loom.instruction(0, 4, 1), 0);
        checks.due("op", loom.instruction(0, 4, 0), 23);
    }

    /** Where ways meet, a slot of another type is UNSET. */
    private static void merged(Checks checks) {
        Code code = new Code(1, 0, 0, 3);
        code.with(Code.LOAD, 0).with(Code.JZERO, 5).push(1).with(Code.STORE, 1).with(Code.JUMP, 7);
        code.op(Code.NONE).with(Code.STORE, 1).op(Code.RETURN, Code.RETURN);
        FiberLoom loom = Code.loom(code);
        checks.due("an N on one way", loom.instruction(0, 4, 11), 1);
        checks.due("UNSET on the other", loom.instruction(0, 5, 11), 0);
        checks.due("UNSET where they meet", loom.instruction(0, 7, 11), 0);
        checks.due("the param", loom.instruction(0, 7, 10), 1);
        checks.due("never set", loom.instruction(0, 7, 12), 0);
        checks.due("no such slot", loom.instruction(0, 7, 13), -1);
        checks.due("reached", loom.instruction(0, 7, 2), 1);
        for (int what = 0; what < 60; what++) {
            int due = what == 0 ? 23 : what < 4 ? 0 : -1;
            checks.due("not reached, " + what, loom.instruction(0, 8, what), due);
        }
        FiberLoom looped = Code.loom(new Code(0, 0, 0, 0).push(1).with(Code.JZERO, 0).with(Code.JUMP, 2));
        checks.due("no SPEND", looped.instruction(0, 0, 3), 0);
        checks.due("SPEND ahead of a jump back", looped.instruction(0, 1, 3), 1);
        checks.due("SPEND ahead of a jump to itself", looped.instruction(0, 2, 3), 1);
        checks.due("told with a jump", looped.instruction(0, 2, 1), 2);
    }

    /** Every kind of jump may be a BACK. */
    private static void backs(Checks checks) {
        Code code = new Code(0, 0, 0, 0);
        int[] takes = {0, 1, 2, 1, 2};
        for (int op = Code.JZERO; op <= Code.JSAME; op++) {
            for (int at : new int[] {-1, 1}) {
                Code one = new Code(0, 0, 0, 0);
                for (int k = 0; k < takes[op - Code.JUMP]; k++) {
                    one.op(op == Code.JNONE || op == Code.JSAME ? Code.NONE : Code.SELF);
                    if (op == Code.JZERO || op == Code.JLESS) {
                        one.with(Code.GET, 0);
                    }
                }
                int jump = one.here();
                one.with(op, at < 0 ? 0 : jump + 1).op(Code.RETURN);
                FiberLoom loom = Code.loom(one);
                checks.due("SPEND ahead of " + op, loom.instruction(0, jump, 3), at < 0 ? 1 : 0);
                checks.due("suspendable by " + op, loom.method(0, 6), at < 0 ? 1 : 0);
            }
        }
        code.with(Code.JUMP, 1).op(Code.RETURN);
        checks.due("no SPEND ahead of a jump on", Code.loom(code).instruction(0, 0, 3), 0);
        Code calls = new Code(0, 0, 0, 0).op(Code.RETURN).with(Code.CALL, 0).with(Code.JUMP, 0);
        checks.due("nor of a CALL that isn't reached", Code.loom(calls).instruction(0, 1, 3), 0);
        checks.due("nor of a BACK that isn't reached", Code.loom(calls).instruction(0, 2, 3), 0);
    }

    private static void byChance(Checks checks) {
        for (int k = 0; k < 300; k++) {
            Random random = new Random(7000 + k);
            Code[] codes = new Programs(random).make();
            ModelsFuzzTest.spoil(codes, random);
            boolean fits = true;
            for (Code code : codes) {
                fits &= code.list.size() <= 120;
            }
            Model model = fits ? new Model(codes) : null;
            if (model != null && model.fault == 0) {
                new Compare(checks, Code.loom(codes), model).methods();
            }
        }
    }
}
