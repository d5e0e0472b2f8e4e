/** PART 1, FAULTS 2 to 7: what is just right, and one step to either side of it. */
public final class EdgesOfTypesTest {
    private static final Checks checks = new Checks();

    /** What each OP takes, from below, as the document tells it (x: any); CALL, RETURN and SPAWN apart. */
    private static final String[] TAKES = {"", "", "", "x", "x", "x", "xx", "NN", "NN", "NN", "NN", "NN",
        "", "N", "NN", "R", "RR", "", "R", "RN", "R", "RR", null, null, "N", "N", "", null, "N", "R", "R", "R",
        "", "N", "R", "R", "R"};
    /** What comes of it. */
    private static final String[] GIVES = {"N", "R", null, "", "", null, null, "N", "N", "N", "N", "N",
        "", "", "", "", "", "R", "N", "", "R", "", null, "", "", "", "R", "R", "", "", "", "",
        "", "", "N", "", ""};

    public static void main(String[] args) {
        fewerThanItTakes();
        anotherType();
        whatComes();
        callsAndSpawns();
        resultsOfCalls();
        results();
        unsetSlots();
        moreThanTwelve();
        inTheOrderTold();
        anotherStack();
        stackOfAHandler();
        slotsThatMeet();
        noNext();
        eachWithItsOwnState();
        roundsByNumber();
        roundsTillNothingChanges();
        eachMethods();
        firstEach();
        checks.finish();
    }

    private static void due(String name, int kind, int m, int i, Code... codes) {
        FiberLoom loom = new FiberLoom();
        checks.due(name, Code.load(loom, Code.file(codes)), kind);
        checks.due(name + ", fault(0)", loom.fault(0), kind);
        checks.due(name + ", fault(1)", loom.fault(1), kind == 0 ? -1 : m);
        checks.due(name + ", fault(2)", loom.fault(2), kind == 0 ? -1 : i);
        checks.due(name + ", by the model", new Model(codes).fault, kind);
    }

    private static Code code() {
        return new Code(0, 0, 0, 3);
    }

    private static Code stack(Code code, String types) {
        for (int k = 0; k < types.length(); k++) {
            code = types.charAt(k) == 'R' ? code.op(Code.NONE) : code.push(k);
        }
        return code;
    }

    private static String some(int many) {
        return "NNNNNNNNNNNNNNNN".substring(0, many);
    }

    /** An EACH's method fits; a jump goes to the RETURN behind it; the slot 0 has an N. */
    private static Code[] withOp(String types, int op) {
        Code main = stack(code().push(1).with(Code.STORE, 0), types);
        boolean jumps = op >= Code.JUMP && op <= Code.JSAME;
        boolean calls = op == Code.CALL || op == Code.SPAWN || op == Code.EACH;
        main.with(op, jumps ? main.here() + 1 : calls ? 1 : 0).op(Code.RETURN);
        return new Code[] {main, new Code(1, 0, 0, 1).op(Code.RETURN)};
    }

    private static boolean ofOwnKind(int op) {
        return op == Code.CALL || op == Code.SPAWN || op == Code.RETURN;
    }

    /** "2 if the stack has fewer than it takes". */
    private static void fewerThanItTakes() {
        for (int op = 0; op <= 36; op++) {
            String takes = ofOwnKind(op) ? "" : TAKES[op].replace('x', 'N');
            for (int many = 0; many < takes.length(); many++) {
                String there = takes.substring(takes.length() - many);
                due("OP " + op + " with " + many, 2, 0, 2 + many, withOp(there, op));
            }
            if (!ofOwnKind(op)) {
                due("OP " + op + " with as many", 0, 0, 0, withOp(takes, op));
                due("OP " + op + " with one more", 0, 0, 0, withOp("N" + takes, op));
            }
        }
    }

    private static String other(String types, int k) {
        char there = types.charAt(k) == 'N' ? 'R' : 'N';
        return types.substring(0, k) + there + types.substring(k + 1);
    }

    /** "3 if one .. is of another type than told"; x is of any type. */
    private static void anotherType() {
        for (int op = 0; op <= 36; op++) {
            for (int k = 0; !ofOwnKind(op) && k < TAKES[op].length(); k++) {
                boolean any = TAKES[op].charAt(k) == 'x';
                String types = other(TAKES[op].replace('x', 'N'), k);
                due("OP " + op + " of " + types, any ? 0 : 3, 0, 2 + types.length(), withOp(types, op));
                due("OP " + op + " of N " + types, any ? 0 : 3, 0, 3 + types.length(), withOp("N" + types, op));
                if (types.length() == 2 && !any) {
                    String both = other(types, 1 - k);
                    due("OP " + op + " of " + both, 3, 0, 4, withOp(both, op));
                }
            }
        }
    }

    /** What comes to the stack, told by instruction() of the next one. */
    private static void whatComes() {
        for (int op = 0; op <= 36; op++) {
            boolean goesOn = op != Code.JUMP && op != Code.RETURN && op != Code.RAISE;
            if (GIVES[op] == null || ofOwnKind(op) || !goesOn) {
                continue;
            }
            String takes = TAKES[op].replace('x', 'N');
            comes("OP " + op, "N" + takes, op, "N" + GIVES[op]);
            comes("OP " + op, "R" + takes, op, "R" + GIVES[op]);
        }
        comes("LOAD", "R", Code.LOAD, "RN");
        comes("COPY of an N", "RN", Code.COPY, "RNN");
        comes("COPY of an R", "NR", Code.COPY, "NRR");
        comes("SWAP of two", "NNR", Code.SWAP, "NRN");
        comes("SWAP of two others", "RRN", Code.SWAP, "RNR");
        comes("SWAP of the same", "NRR", Code.SWAP, "NRR");
        comes("CALL without a result", "RN", Code.CALL, "R");
        comes("SPAWN", "NN", Code.SPAWN, "NR");
    }

    private static void comes(String name, String ahead, int op, String behind) {
        FiberLoom loom = Code.loom(withOp(ahead, op));
        int next = 3 + ahead.length();
        checks.due(name + ": how many", loom.instruction(0, next, 4), behind.length());
        for (int k = 0; k < behind.length(); k++) {
            checks.due(name + ": " + k, loom.instruction(0, next, 50 + k), behind.charAt(k) == 'N' ? 1 : 2);
        }
        checks.due(name + ": no more", loom.instruction(0, next, 50 + behind.length()), -1);
    }

    /** What a CALL of method 0 gives: nothing, an N, or an R. */
    private static void resultsOfCalls() {
        for (int result = 0; result < 3; result++) {
            Code main = code().push(1).with(Code.CALL, 0).op(Code.RETURN);
            FiberLoom loom = Code.loom(callee(1, 0, result), main);
            checks.due("how many of " + result, loom.instruction(1, 2, 4), result == 0 ? 0 : 1);
            checks.due("the type of " + result, loom.instruction(1, 2, 50), result == 0 ? -1 : result);
        }
    }

    private static Code callee(int params, int types, int result) {
        Code code = new Code(params, types, result, params);
        return result == 0 ? code.op(Code.RETURN)
            : result == 1 ? code.push(0).op(Code.RETURN) : code.op(Code.NONE, Code.RETURN);
    }

    /** "CALL method: its params . its result", "SPAWN method: its params . R": 0 to 6 of them. */
    private static void callsAndSpawns() {
        for (int op : new int[] {Code.CALL, Code.SPAWN}) {
            for (int params = 0; params <= 6; params++) {
                for (int types = 0; types < 1 << params; types++) {
                    String wants = "";
                    for (int k = 0; k < params; k++) {
                        wants += (types >> k & 1) == 1 ? "R" : "N";
                    }
                    Code callee = callee(params, types, types % 3);
                    String name = "OP " + op + " of " + wants;
                    due(name, 0, 0, 0, stack(code(), wants).with(op, 1).op(Code.RETURN), callee);
                    due(name + " of method 0", 0, 0, 0, callee, stack(code(), wants).with(op, 0).op(Code.RETURN));
                    if (params > 0) {
                        String fewer = wants.substring(1);
                        due(name + " of method 0 with " + fewer, 2, 1, params - 1, callee,
                            stack(code(), fewer).with(op, 0).op(Code.RETURN));
                        due(name + " with " + fewer, 2, 0, params - 1,
                            stack(code(), fewer).with(op, 1).op(Code.RETURN), callee);
                    }
                    for (int k = 0; k < params; k++) {
                        String wrong = other(wants, k);
                        due(name + " with " + wrong, 3, 0, params,
                            stack(code(), wrong).with(op, 1).op(Code.RETURN), callee);
                    }
                }
            }
        }
    }

    /** "RETURN: its own result (what else is on the stack goes)". */
    private static void results() {
        for (int more = 0; more <= 11; more++) {
            due("none with " + more, 0, 0, 0, stack(code(), some(more)).op(Code.RETURN));
            Code number = stack(new Code(0, 0, 1, 0), some(more));
            due("an N with " + more, more == 0 ? 2 : 0, 0, 0, number.op(Code.RETURN));
            Code ofR = stack(new Code(0, 0, 2, 0), some(more));
            due("an R with " + more, more == 0 ? 2 : 3, 0, more, ofR.op(Code.RETURN));
            Code atTop = stack(new Code(0, 0, 2, 0), some(more) + "R");
            due("an R on top of " + more, 0, 0, 0, atTop.op(Code.RETURN));
            Code wrong = stack(new Code(0, 0, 1, 0), some(more) + "R");
            due("an R for an N on top of " + more, 3, 0, more + 1, wrong.op(Code.RETURN));
        }
    }

    /** "3 if .. a LOADED slot is UNSET": params are set, the others aren't till they are STORED. */
    private static void unsetSlots() {
        for (int params = 0; params <= 6; params++) {
            for (int slot = 0; slot < 12; slot++) {
                Code code = new Code(params, 0, 0, 12).with(Code.LOAD, slot).op(Code.RETURN);
                due("LOAD " + slot + " with " + params, slot < params ? 0 : 3, 0, 0, code);
                Code stored = new Code(params, 0, 0, 12).op(Code.NONE).with(Code.STORE, slot).with(Code.LOAD, slot)
                    .op(Code.LOCK, Code.RETURN);
                due("STORE, LOAD " + slot + " with " + params, 0, 0, 0, stored);
            }
        }
    }

    /** "4 if more than 12 would be on the stack": 11, 12 and 13. */
    private static void moreThanTwelve() {
        for (int many = 10; many <= 12; many++) {
            String there = some(many);
            int kind = many + 1 > 12 ? 4 : 0;
            for (int op : new int[] {Code.PUSH, Code.NONE, Code.LOAD, Code.COPY, Code.NEW, Code.SELF}) {
                due(many + " and OP " + op, kind, 0, 2 + many, withOp(there, op));
            }
            for (int op : new int[] {Code.STORE, Code.DROP, Code.SWAP, Code.ADD, Code.OUT, Code.YIELD, Code.SLEEP}) {
                due(many + " and OP " + op, 0, 0, 0, withOp(there, op));
            }
            for (int op : new int[] {Code.GET, Code.FETCH, Code.JOIN}) {
                due(many + " and OP " + op + " of the last", 0, 0, 0, withOp(some(many - 1) + "R", op));
            }
            for (int params = 0; params < 2; params++) {
                for (int result = 0; result < 3; result++) {
                    int behind = many - params + (result == 0 ? 0 : 1);
                    due(many + ", CALL of " + params + " for " + result, behind > 12 ? 4 : 0, 0, many,
                        stack(code(), there).with(Code.CALL, 1).op(Code.RETURN), callee(params, 0, result));
                }
                due(many + ", SPAWN of " + params, many - params + 1 > 12 ? 4 : 0, 0, many,
                    stack(code(), there).with(Code.SPAWN, 1).op(Code.RETURN), callee(params, 0, 1));
            }
        }
        due("12 are enough for PUSH and ADD", 0, 0, 0, stack(code(), some(11)).push(1).op(Code.ADD).push(1).op(Code.RETURN));
        due("13 by PUSH", 4, 0, 12, stack(code(), some(13)).op(Code.RETURN));
    }

    /** 2 is looked for ahead of 3, from the top down, 3 ahead of 4, and all of them ahead of 5 and 6. */
    private static void inTheOrderTold() {
        due("2 ahead of 3", 2, 0, 1, code().op(Code.NONE, Code.ADD, Code.RETURN));
        due("2 ahead of 3, of a CALL", 2, 0, 1, code().op(Code.NONE).with(Code.CALL, 1).op(Code.RETURN), callee(2, 0, 0));
        due("3 ahead of 4", 3, 0, 12, stack(code(), some(12)).with(Code.LOAD, 2).op(Code.RETURN));
        due("4 ahead of 6", 4, 0, 12, stack(code(), some(12)).op(Code.NEW));
        due("2 ahead of 6", 2, 0, 0, code().op(Code.DROP));
        due("3 ahead of 6", 3, 0, 1, code().op(Code.NONE, Code.OUT));
        due("3 ahead of 5 of a handler", 3, 0, 1, code().op(Code.NONE, Code.OUT, Code.RETURN).handler(0, 2, 2));
        due("6 ahead of a jump's 5", 6, 0, 2, code().push(1).push(2).with(Code.JZERO, 0));
        due("a handler's 5 ahead of the next one's", 5, 0, 0, code().op(Code.NONE, Code.DROP, Code.RETURN).handler(0, 1, 1));
    }

    /** "5 if its stack is another one": fewer, more, another type below or at the top; or just the same. */
    private static void anotherStack() {
        String[] firsts = {"", "N", "R", "NN", "NR", "RN", "RR", "NRNRNRNRNR"};
        String[] seconds = {"", "N", "R", "NN", "NR", "RN", "RR", "NRNRNRNRNN", "NRNRNRNRNR", "RRNRNRNRNR"};
        for (String first : firsts) {
            for (String second : seconds) {
                Code code = code().push(1).with(Code.JZERO, 3 + first.length());
                stack(code, first);
                int over = code.here();
                code.with(Code.JUMP, over + 1 + second.length());
                stack(code, second);
                code.op(Code.RETURN);
                int told = second.isEmpty() ? over : code.here() - 2;
                due(first + " and " + second, first.equals(second) ? 0 : 5, 0, told, code);
            }
        }
    }

    /** "a stack of one N" comes to AT; another one there is a FAULT 5. */
    private static void stackOfAHandler() {
        String[] there = {"", "N", "R", "NN"};
        for (String types : there) {
            Code code = code().push(0).with(Code.JZERO, 5).op(Code.YIELD).op(Code.RETURN, Code.RETURN);
            stack(code, types);
            int at = code.here();
            code.op(Code.RETURN).handler(2, 3, at);
            if (types.isEmpty()) {
                due("AT with nothing", 5, 0, 2, code);
            } else {
                due("AT with " + types, types.equals("N") ? 0 : 5, 0, at - 1, code);
            }
        }
        FiberLoom loom = Code.loom(code().op(Code.YIELD, Code.RETURN, Code.DROP, Code.RETURN).handler(0, 1, 2));
        checks.due("one on AT's stack", loom.instruction(0, 2, 4), 1);
        checks.due("it is an N", loom.instruction(0, 2, 50), 1);
        checks.due("no second one", loom.instruction(0, 2, 51), -1);
    }

    /** "a slot of another type is UNSET": N, R and UNSET with each other. */
    private static void slotsThatMeet() {
        for (int one = 0; one < 3; one++) {
            for (int two = 0; two < 3; two++) {
                Code code = code().push(1).with(Code.JZERO, 5);
                set(code, one);
                code.with(Code.JUMP, 7);
                set(code, two);
                code.op(Code.RETURN);
                FiberLoom loom = Code.loom(code);
                checks.due(one + " meets " + two, loom.instruction(0, 7, 11), one == two ? one : 0);
                checks.due(one + " on its way", loom.instruction(0, 4, 11), one);
                Code loads = code().push(1).with(Code.JZERO, 5);
                set(loads, one);
                loads.with(Code.JUMP, 7);
                set(loads, two);
                loads.with(Code.LOAD, 1).op(Code.RETURN);
                due("LOAD where " + one + " meets " + two, one == two && one != 0 ? 0 : 3, 0, 7, loads);
            }
        }
    }

    /** Two instructions that set slot 1 to a type, or leave it UNSET. */
    private static void set(Code code, int type) {
        if (type == 0) {
            code.op(Code.NEW, Code.DROP);
        } else {
            code.op(type == 1 ? Code.PUSH : Code.NONE).with(Code.STORE, 1);
        }
    }

    /** "then to the next one (not of 12, 23, 24): 6 if there is none". */
    private static void noNext() {
        for (int op = 0; op <= 36; op++) {
            String takes = op == Code.CALL || op == Code.SPAWN ? "N" : op == Code.RETURN ? "" : TAKES[op].replace('x', 'N');
            Code main = stack(code().push(1).with(Code.STORE, 0), takes);
            int last = main.here();
            boolean ends = op == Code.JUMP || op == Code.RETURN || op == Code.RAISE;
            boolean jumps = op >= Code.JUMP && op <= Code.JSAME;
            boolean calls = op == Code.CALL || op == Code.SPAWN || op == Code.EACH;
            main.with(op, jumps ? 0 : calls ? 1 : 0);
            due("OP " + op + " is the last one", ends ? 0 : 6, 0, last, main, callee(1, 0, 0));
            main.op(Code.RETURN);
            due("OP " + op + " is the last but one", 0, 0, 0, main, callee(1, 0, 0));
        }
        due("one alone", 6, 0, 0, code().op(Code.YIELD));
        due("one alone that ends", 0, 0, 0, code().op(Code.RETURN));
        due("120, the last goes on", 6, 0, 119, yields(120));
        due("120, the last ends", 0, 0, 0, yields(119).op(Code.RETURN));
        due("not if it isn't reached", 0, 0, 0, code().op(Code.RETURN, Code.YIELD));
    }

    private static Code yields(int many) {
        Code code = code();
        for (int k = 0; k < many; k++) {
            code.op(Code.YIELD);
        }
        return code;
    }

    /** "each with the state that it has then": not with what the one ahead of it left. */
    private static void eachWithItsOwnState() {
        Code stacks = code().push(1).with(Code.JZERO, 4).op(Code.NONE, Code.RETURN).push(5).op(Code.OUT, Code.RETURN);
        due("a stack from a jump", 0, 0, 0, stacks);
        Code other = code().push(1).push(0).with(Code.JZERO, 6).op(Code.DROP, Code.NONE, Code.RETURN, Code.OUT, Code.RETURN);
        due("an N from a jump, an R ahead", 0, 0, 0, other);
        Code turned = code().op(Code.NONE).push(0).with(Code.JZERO, 6).op(Code.DROP, Code.PUSH, Code.RETURN, Code.LOCK, Code.RETURN);
        due("an R from a jump, an N ahead", 0, 0, 0, turned);
        FiberLoom below = Code.loom(code().push(1).push(0).with(Code.JZERO, 6).op(Code.DROP, Code.NONE, Code.RETURN, Code.NEW, Code.RETURN));
        checks.due("below what comes", below.instruction(0, 7, 50), 1);
        checks.due("what comes", below.instruction(0, 7, 51), 2);
        Code deeper = code().push(1).with(Code.JZERO, 5).op(Code.NONE, Code.NONE, Code.RETURN).op(Code.DROP);
        due("how many are on it", 2, 0, 5, deeper.op(Code.RETURN));
        Code slots = code().push(1).with(Code.JZERO, 5).op(Code.NONE).with(Code.STORE, 0).op(Code.RETURN).with(Code.LOAD, 0);
        due("slots from a jump", 3, 0, 5, slots.op(Code.RETURN));
        Code types = code().push(1).with(Code.STORE, 0).push(1).with(Code.JZERO, 7).op(Code.NONE).with(Code.STORE, 0)
            .op(Code.RETURN).with(Code.LOAD, 0).op(Code.OUT, Code.RETURN);
        due("a slot's type from a jump", 0, 0, 0, types);
        int[] kinds = {1, 2, 1, 1, 2, 2, 1};
        Code stored = code();
        for (int kind : kinds) {
            stored.op(kind == 1 ? Code.PUSH : Code.NONE).with(Code.STORE, 1);
        }
        FiberLoom loom = Code.loom(stored.op(Code.RETURN));
        for (int k = 0; k < kinds.length; k++) {
            checks.due("slot 1 is what was STOREd last, " + k, loom.instruction(0, 2 * k + 2, 11), kinds[k]);
            checks.due("slot 0 isn't touched", loom.instruction(0, 2 * k + 2, 10), 0);
            checks.due("slot 2 isn't touched", loom.instruction(0, 2 * k + 2, 12), 0);
        }
    }

    /** "A round in which no state changes is the method's last one": here the second and later change slots alone. */
    private static void roundsTillNothingChanges() {
        for (int loops = 1; loops <= 6; loops++) {
            Code code = code().push(1).with(Code.STORE, 0).with(Code.LOAD, 0).op(Code.OUT);
            for (int k = 0; k < loops; k++) {
                int back = k == 0 ? 2 : 4 + 3 * (k - 1);
                code.op(Code.YIELD).push(0).with(Code.JZERO, back);
            }
            code.op(Code.NONE).with(Code.STORE, 0).with(Code.JUMP, 4 + 3 * (loops - 1));
            due("UNSET comes back over " + loops, 3, 0, 2, code);
        }
    }

    /**
     * "In a ROUND all instructions that are reached (by then) are looked at, by number": one that
     * is reached from behind waits for the next round, one further on doesn't.
     */
    private static void roundsByNumber() {
        Code back = code().with(Code.JUMP, 3).op(Code.DROP, Code.RETURN).push(0).with(Code.JZERO, 1).op(Code.OUT);
        due("the one behind is looked at in the first round", 2, 0, 5, back);
        Code alone = code().with(Code.JUMP, 3).op(Code.DROP, Code.RETURN).push(0).with(Code.JZERO, 1).op(Code.RETURN);
        due("the one ahead in the second", 2, 0, 1, alone);
        Code later = code().push(1).with(Code.STORE, 0).with(Code.LOAD, 0).op(Code.OUT, Code.NONE).with(Code.STORE, 0)
            .push(1).with(Code.JZERO, 2).op(Code.DROP, Code.RETURN);
        due("a slot that is UNSET from behind", 2, 0, 8, later);
        Code slots = code().push(1).with(Code.STORE, 0).with(Code.LOAD, 0).op(Code.OUT, Code.NONE).with(Code.STORE, 0)
            .push(1).with(Code.JZERO, 2).op(Code.RETURN);
        due("is met in the second round", 3, 0, 2, slots);
        due("methods by number", 2, 1, 0, code().op(Code.RETURN), code().op(Code.DROP), code().op(Code.YIELD));
        due("the first method's second round is ahead of the second method", 2, 0, 1, alone, code().op(Code.DROP));
    }

    /** "7: .. whose method doesn't take just one N, gives something, is SUSPENDABLE, or has a reached EACH itself". */
    private static void eachMethods() {
        Code main = code().push(2).with(Code.EACH, 1).op(Code.RETURN);
        for (int params = 0; params <= 6; params++) {
            for (int types = 0; types < 1 << params; types++) {
                boolean fits = params == 1 && types == 0;
                due("EACH with " + params + " of " + types, fits ? 0 : 7, 0, 1, main, callee(params, types, 0));
            }
        }
        for (int result = 0; result < 3; result++) {
            due("EACH for " + result, result == 0 ? 0 : 7, 0, 1, main, callee(1, 0, result));
        }
        Code fits = callee(1, 0, 0);
        for (int op = Code.YIELD; op <= Code.WAIT; op++) {
            Code point = stack(new Code(1, 0, 0, 1), TAKES[op]).op(op, Code.RETURN);
            due("EACH of a POINT " + op, 7, 0, 1, main, point);
            due("EACH of a POINT that isn't reached, " + op, 0, 0, 0, main, new Code(1, 0, 0, 1).op(Code.RETURN, op));
        }
        due("EACH of a BACK to itself", 7, 0, 1, main, new Code(1, 0, 0, 1).with(Code.JUMP, 0));
        due("EACH of a jump on", 0, 0, 0, main, new Code(1, 0, 0, 1).with(Code.JUMP, 1).op(Code.RETURN));
        due("EACH of a BACK that isn't reached", 0, 0, 0, main, new Code(1, 0, 0, 1).op(Code.RETURN).with(Code.JUMP, 0));
        due("EACH of a CALL", 7, 0, 1, main, new Code(1, 0, 0, 1).with(Code.LOAD, 0).with(Code.CALL, 2).op(Code.RETURN), fits);
        due("EACH of a CALL that isn't reached", 0, 0, 0, main, new Code(1, 0, 0, 1).op(Code.RETURN).with(Code.CALL, 2), fits);
        due("EACH of a SPAWN", 0, 0, 0, main,
            new Code(1, 0, 0, 1).with(Code.LOAD, 0).with(Code.SPAWN, 2).op(Code.DROP, Code.RETURN), fits);
        due("EACH of an EACH", 7, 0, 1, main, new Code(1, 0, 0, 1).push(0).with(Code.EACH, 2).op(Code.RETURN), fits);
        due("EACH of an EACH that isn't reached", 0, 0, 0, main,
            new Code(1, 0, 0, 1).op(Code.RETURN).push(0).with(Code.EACH, 2).op(Code.RETURN), fits);
        due("an EACH that isn't reached", 0, 0, 0, code().op(Code.RETURN).push(2).with(Code.EACH, 0).op(Code.RETURN));
    }

    /** "FAULTS 2 to 6: the first one .. If there is none: 7: the first reached EACH (by methods, instructions)". */
    private static void firstEach() {
        Code good = callee(1, 0, 0);
        Code bad = callee(0, 0, 0);
        Code both = code().push(1).with(Code.EACH, 1).push(1).with(Code.EACH, 2).push(1).with(Code.EACH, 2).op(Code.RETURN);
        due("the second EACH", 7, 0, 3, both, good, bad);
        due("the first EACH", 7, 0, 1, both, bad, good);
        Code one = code().push(1).with(Code.EACH, 2).op(Code.RETURN);
        due("of a later method", 7, 1, 1, good, one, bad);
        due("of the first of two methods", 7, 0, 1, one, one, bad);
        Code ofFirst = code().push(1).with(Code.EACH, 0).op(Code.RETURN);
        due("method 0 fits", 0, 0, 0, good, ofFirst);
        due("method 0 doesn't", 7, 1, 1, bad, ofFirst);
        due("a FAULT 6 of a later method is ahead", 6, 3, 0, one, one, bad, code().op(Code.YIELD));
        due("a FAULT 2 of a later method is ahead", 2, 3, 0, one, one, bad, code().op(Code.DROP));
    }
}
