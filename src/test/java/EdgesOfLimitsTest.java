import java.util.Arrays;

/** PART 3, the limits of a WORLD and what is RAISED there: one below, just there, and one above. */
public final class EdgesOfLimitsTest {
    private static final Checks checks = new Checks();

    public static void main(String[] args) {
        objects();
        objectsForSpawn();
        fibers();
        fibersThatEnded();
        callsWithThirtyFrames();
        framesThatWent();
        eachWithThirtyFrames();
        eachOfFour();
        eachBetweenRaises();
        eachAgain();
        outputs();
        numbersWrap();
        divisions();
        comparisons();
        ofNone();
        fieldsAtTheirEnds();
        firstHandler();
        paramsOfCallsAndSpawns();
        resultsOfCalls();
        checks.finish();
    }

    private static Code code(int slots) {
        return new Code(0, 0, 0, slots);
    }

    /** Slot 0 counts down from a number, with a body each time; behind it the code goes on. */
    private static Code times(int many, Code body) {
        Code code = code(1).push(many).with(Code.STORE, 0).with(Code.LOAD, 0).with(Code.JZERO, 0);
        for (int[] one : body.list) {
            code.with(one[0], one[1]);
        }
        code.with(Code.LOAD, 0).push(1).op(Code.SUB).with(Code.STORE, 0).with(Code.JUMP, 2);
        code.patch(3, code.here());
        return code;
    }

    private static Story longer(Story story, String name) {
        for (int k = 0; k < 12 && story.loom.fiber(0, 0, 0) != 5; k++) {
            story.turns(1, 1);
        }
        checks.due(name + ": it ENDED", story.loom.fiber(0, 0, 0), 5);
        return story;
    }

    /** "OBJECTS 1, 2, .. (300 at most)", "- 5 NEW .. with 300 objects": the 299th, the 300th, one more. */
    private static void objects() {
        for (int made : new int[] {297, 298, 299, 300}) {
            Code main = times(made, code(0).op(Code.NEW, Code.DROP)).op(Code.RETURN);
            String name = made + " and its own";
            Story story = longer(new Story(checks, name, 100, main), name);
            story.about(2, Math.min(300, made + 1)).fiber(0, 1, made < 300 ? 1 : 2).fiber(0, 2, made < 300 ? 0 : -5);
            story.object(Math.min(300, made + 1), 8, -1).object(301, 8, 0).object(0, 8, 0);
        }
    }

    /** "- 5 .. SPAWN with 300 objects": with 299 it is made, and its object is the 300th. */
    private static void objectsForSpawn() {
        for (int made : new int[] {297, 298, 299}) {
            Code main = times(made, code(0).op(Code.NEW, Code.DROP)).with(Code.SPAWN, 1).op(Code.DROP, Code.RETURN);
            String name = "SPAWN with " + (made + 1);
            Story story = longer(new Story(checks, name, 100, main, code(0).op(Code.RETURN)), name);
            story.fiber(0, 2, made < 299 ? 0 : -5).about(1, made < 299 ? 2 : 1).about(2, made < 299 ? made + 2 : 300);
            story.fiber(1, 7, made < 299 ? made + 2 : -1);
        }
    }

    /** "FIBERS 0, 1, .. (24 at most)", "- 5 .. SPAWN with 24 fibers": the 23rd, the 24th, one more. */
    private static void fibers() {
        for (int made : new int[] {22, 23, 24}) {
            Code spawns = times(made, code(0).with(Code.SPAWN, 1).op(Code.DROP)).op(Code.RETURN);
            Story story = new Story(checks, made + " and fiber 0", 100, spawns, code(0).op(Code.YIELD, Code.RETURN)).turns(1, 1);
            int due = Math.min(24, made + 1);
            story.about(1, due).about(2, due).about(4, due - 1).fiber(0, 2, made < 24 ? 0 : -5).fiber(due - 1, 7, due).fiber(due, 0, -1);
        }
    }

    /** Fibers that ENDED are fibers still: their numbers aren't used again. */
    private static void fibersThatEnded() {
        Code main = code(0);
        for (int k = 0; k < 23; k++) {
            main.with(Code.SPAWN, 1).op(Code.DROP);
        }
        main.push(50).op(Code.SLEEP).op(Code.NEW, Code.DROP).with(Code.SPAWN, 1).op(Code.RETURN);
        Story story = new Story(checks, "all ENDED", 9, main, code(0).op(Code.RETURN)).turns(50, 24).about(4, 0).turns(1, 1);
        story.fiber(0, 2, -5).about(1, 24).about(2, 25);
    }

    /** A method that calls itself so many times, then does something, and what it raises is put out by main. */
    private static Code[] deep(int calls, Code last) {
        Code main = code(0).push(calls).with(Code.CALL, 1).op(Code.RETURN, Code.OUT, Code.RETURN).handler(0, 2, 3);
        Code down = new Code(1, 0, 0, 1).with(Code.LOAD, 0).with(Code.JZERO, 7).with(Code.LOAD, 0).push(1).op(Code.SUB)
            .with(Code.CALL, 1).op(Code.RETURN);
        for (int[] one : last.list) {
            down.with(one[0], one[1]);
        }
        return new Code[] {main, down, code(0).out(77).op(Code.RETURN), new Code(1, 0, 0, 1).with(Code.LOAD, 0).op(Code.OUT, Code.RETURN)};
    }

    /** "- 4 CALL .. with 30 frames": with 28, 29 and 30 there. */
    private static void callsWithThirtyFrames() {
        for (int calls = 26; calls <= 28; calls++) {
            int frames = calls + 2;
            Story story = new Story(checks, "CALL with " + frames, 100, deep(calls, code(0).with(Code.CALL, 2).op(Code.RETURN)));
            story.turns(1, 1).output(frames < 30 ? 77 : -4).fiber(0, 1, 1);
        }
        for (int calls = 27; calls <= 29; calls++) {
            Story story = new Story(checks, "frames that stop, " + calls, 100, deep(calls, code(0).op(Code.YIELD, Code.RETURN)));
            story.turns(1, 1).fiber(0, 4, calls < 29 ? calls + 2 : 0);
            if (calls < 29) {
                story.frame(0, calls + 1, 1, 7).frame(0, calls + 1, 0, 1).frame(0, calls + 2, 0, 0).frame(0, 0, 1, 1);
                checks.due("SITES", story.loom.packed(0, 0, -1), calls + 2);
                story.turns(1, 1).output().fiber(0, 1, 1);
            } else {
                story.output(-4);
            }
        }
        Code[] counts = deep(28, code(0).with(Code.CALL, 2).op(Code.RETURN));
        new Story(checks, "the CALL that raises is a STEP", 100, counts).turns(1, 1).fiber(0, 3, 2 + 28 * 6 + 3 + 2);
    }

    /** What RETURNED or was RAISED makes room again: 30 frames twice. */
    private static void framesThatWent() {
        Code[] codes = deep(28, code(0).op(Code.YIELD, Code.RETURN));
        codes[0] = code(0).push(28).with(Code.CALL, 1).push(29).with(Code.CALL, 1).op(Code.RETURN, Code.OUT).push(28).with(Code.CALL, 1)
            .op(Code.RETURN).handler(2, 4, 5);
        new Story(checks, "30 again", 100, codes).turns(1, 1).fiber(0, 4, 30).turns(1, 1).output(-4).fiber(0, 4, 30)
            .turns(1, 1).fiber(0, 1, 1);
    }

    /** "and EACH ahead of each of its calls, with 30 frames": of 0 calls it raises nothing. */
    private static void eachWithThirtyFrames() {
        for (int calls = 26; calls <= 28; calls++) {
            for (int n = -1; n <= 2; n++) {
                Story story = new Story(checks, "EACH " + n + " with " + (calls + 2), 100,
                    deep(calls, code(0).push(n).with(Code.EACH, 3).op(Code.RETURN))).turns(1, 1).fiber(0, 1, 1);
                if (n < 1) {
                    story.output();
                } else if (calls == 28) {
                    story.output(-4);
                } else {
                    story.output(Arrays.copyOf(new int[] {0, 1}, n));
                }
            }
        }
    }

    /** "EACH n calls its method with 0 .. n - 1 (n being 4 at most)". */
    private static void eachOfFour() {
        for (int n : new int[] {Integer.MIN_VALUE, -1, 0, 1, 2, 3, 4, 5, 6, Integer.MAX_VALUE}) {
            int calls = Math.max(0, Math.min(4, n));
            Code put = new Code(1, 0, 0, 1).with(Code.LOAD, 0).op(Code.OUT, Code.RETURN);
            Code main = code(0).push(9).push(n).with(Code.EACH, 1).op(Code.OUT, Code.RETURN);
            int[] wants = Arrays.copyOf(new int[] {0, 1, 2, 3}, calls + 1);
            wants[calls] = 9;
            new Story(checks, "EACH " + n, 1, main, put).turns(1, 1).output(wants).fiber(0, 3, 5 + 3 * calls);
        }
    }

    /** A call of an EACH that raises ends it: the first, the last, and none. */
    private static void eachBetweenRaises() {
        for (int at = 0; at <= 4; at++) {
            Code put = new Code(1, 0, 0, 1).with(Code.LOAD, 0).op(Code.OUT).with(Code.LOAD, 0).push(at).op(Code.SUB)
                .with(Code.JZERO, 7).op(Code.RETURN).push(50).op(Code.RAISE);
            Code main = code(0).push(4).with(Code.EACH, 1).op(Code.RETURN, Code.OUT, Code.RETURN).handler(1, 2, 3);
            int[] wants = at < 4 ? Arrays.copyOf(new int[] {0, 1, 2, 3}, at + 2) : new int[] {0, 1, 2, 3};
            if (at < 4) {
                wants[at + 1] = 50;
            }
            new Story(checks, "EACH raises at " + at, 5, main, put).turns(1, 1).output(wants).fiber(0, 1, 1);
        }
    }

    /** An EACH behind another one in the same frame begins from 0 again, also if that one was ended by a raise. */
    private static void eachAgain() {
        Code put = new Code(1, 0, 0, 1).with(Code.LOAD, 0).op(Code.OUT, Code.RETURN);
        Code twice = code(0).push(3).with(Code.EACH, 1).push(2).with(Code.EACH, 1).push(4).with(Code.EACH, 1).push(0)
            .with(Code.EACH, 1).push(1).with(Code.EACH, 1).op(Code.RETURN);
        new Story(checks, "EACH again", 5, twice, put).turns(1, 1).output(0, 1, 2, 0, 1, 0, 1, 2, 3, 0).fiber(0, 1, 1);
        Code raises = new Code(1, 0, 0, 1).with(Code.LOAD, 0).op(Code.OUT).with(Code.LOAD, 0).with(Code.JZERO, 6).push(8)
            .op(Code.RAISE, Code.RETURN);
        Code caught = code(0).push(4).with(Code.EACH, 1).op(Code.RETURN, Code.OUT).push(2).with(Code.EACH, 2).op(Code.RETURN)
            .handler(1, 2, 3);
        new Story(checks, "EACH behind a raise", 5, caught, raises, put).turns(1, 1).output(0, 1, 8, 0, 1).fiber(0, 1, 1);
    }

    /** "OUT: to the world's OUTPUT (the first 500 are kept)": 499, 500, 501 numbers. */
    private static void outputs() {
        for (int many : new int[] {499, 500, 501, 502}) {
            Code main = times(many, code(0).with(Code.LOAD, 0).op(Code.OUT)).op(Code.RETURN);
            String name = many + " numbers";
            Story story = longer(new Story(checks, name, 100, main), name).about(3, many);
            for (int w = 0; w < 2; w++) {
                checks.due(name + ": the first", story.loom.output(w, 0), many);
                checks.due(name + ": 498", story.loom.output(w, 498), many - 498);
                checks.due(name + ": 499", story.loom.output(w, 499), many >= 500 ? many - 499 : 0);
                checks.due(name + ": 500", story.loom.output(w, 500), 0);
                checks.due(name + ": 501", story.loom.output(w, 501), 0);
                checks.due(name + ": -1", story.loom.output(w, -1), 0);
            }
        }
    }

    private static void gives(int op, int a, int b, int due) {
        Code main = new Code(0, 0, 1, 0).push(a).push(b).op(op, Code.RETURN);
        new Story(checks, a + " " + op + " " + b, 5, main).turns(1, 1).fiber(0, 1, 1).fiber(0, 2, due);
    }

    /** "N is a NUMBER, an int that wraps". */
    private static void numbersWrap() {
        int least = Integer.MIN_VALUE;
        int most = Integer.MAX_VALUE;
        gives(Code.ADD, most, 0, most);
        gives(Code.ADD, most, 1, least);
        gives(Code.ADD, most, 2, least + 1);
        gives(Code.ADD, least, -1, most);
        gives(Code.SUB, least, 0, least);
        gives(Code.SUB, least, 1, most);
        gives(Code.SUB, most, -1, least);
        gives(Code.SUB, 0, least, least);
        gives(Code.MUL, 1 << 16, 1 << 15, least);
        gives(Code.MUL, 1 << 16, 1 << 16, 0);
        gives(Code.MUL, least, -1, least);
        gives(Code.MUL, most, most, 1);
    }

    /** "DIV, REM (towards 0; the rest has the first one's sign)", "- 2 by 0": by -1, 0 and 1. */
    private static void divisions() {
        int least = Integer.MIN_VALUE;
        int[][] dues = {{7, 2, 3, 1}, {-7, 2, -3, -1}, {7, -2, -3, 1}, {-7, -2, 3, -1}, {1, 2, 0, 1}, {-1, 2, 0, -1},
            {least, -1, least, 0}, {least, 1, least, 0}, {least + 1, -1, Integer.MAX_VALUE, 0}, {0, -1, 0, 0}, {0, 1, 0, 0},
            {least, least, 1, 0}, {Integer.MAX_VALUE, least, 0, Integer.MAX_VALUE}};
        for (int[] one : dues) {
            gives(Code.DIV, one[0], one[1], one[2]);
            gives(Code.REM, one[0], one[1], one[3]);
        }
        for (int op : new int[] {Code.DIV, Code.REM}) {
            for (int a : new int[] {least, -1, 0, 1}) {
                new Story(checks, a + " by 0", 5, code(0).push(a).push(0).op(op, Code.RETURN)).turns(1, 1).fiber(0, 1, 2)
                    .fiber(0, 2, -2).fiber(0, 3, 3);
            }
        }
    }

    private static void jumps(String name, boolean due, int op, Code code) {
        int at = code.here();
        code.with(op, at + 3).out(0).out(1).op(Code.RETURN);
        code.patch(at, at + 3);
        Story story = new Story(checks, name, 5, code).turns(1, 1);
        if (due) {
            story.output(1);
        } else {
            story.output(0, 1);
        }
    }

    /** "if it is 0", "if the first one is less", "if it is NONE", "if they are the same": one step to either side. */
    private static void comparisons() {
        int least = Integer.MIN_VALUE;
        int most = Integer.MAX_VALUE;
        for (int n : new int[] {least, -1, 0, 1, most}) {
            jumps("JZERO of " + n, n == 0, Code.JZERO, code(0).push(n));
        }
        int[][] pairs = {{1, 2}, {2, 2}, {3, 2}, {least, most}, {most, least}, {-1, 0}, {0, -1}, {least, least}, {most, most}};
        for (int[] one : pairs) {
            jumps(one[0] + " less than " + one[1], one[0] < one[1], Code.JLESS, code(0).push(one[0]).push(one[1]));
        }
        jumps("JNONE of NONE", true, Code.JNONE, code(0).op(Code.NONE));
        jumps("JNONE of object 1", false, Code.JNONE, code(0).op(Code.SELF));
        jumps("NONE and NONE", true, Code.JSAME, code(0).op(Code.NONE, Code.NONE));
        jumps("NONE and object 1", false, Code.JSAME, code(0).op(Code.NONE, Code.SELF));
        jumps("object 1 and 2", false, Code.JSAME, code(0).op(Code.SELF, Code.NEW));
        jumps("object 1 and 1", true, Code.JSAME, code(0).op(Code.SELF, Code.SELF));
    }

    /** "- 1 of NONE where an object is wanted", and nowhere else. */
    private static void ofNone() {
        Code[] wanted = {code(0).op(Code.NONE).with(Code.GET, 3), code(0).op(Code.NONE).with(Code.FETCH, 3),
            code(0).op(Code.NONE).push(1).with(Code.PUT, 0), code(0).op(Code.NONE, Code.SELF).with(Code.KEEP, 0),
            code(0).op(Code.NONE, Code.KILL), code(0).op(Code.NONE, Code.FREE), code(0).op(Code.NONE).with(Code.WAKE, 0),
            code(0).op(Code.NONE).with(Code.WAKE, 1), code(0).op(Code.NONE, Code.JOIN), code(0).op(Code.NONE, Code.LOCK),
            code(0).op(Code.NONE, Code.WAIT)};
        for (int k = 0; k < wanted.length; k++) {
            new Story(checks, "NONE wanted, " + k, 5, wanted[k].op(Code.RETURN)).turns(1, 1).fiber(0, 1, 2).fiber(0, 2, -1);
        }
        Code fine = code(1).op(Code.SELF, Code.NONE).with(Code.KEEP, 0).op(Code.NONE).with(Code.STORE, 0).op(Code.NONE, Code.COPY)
            .op(Code.SWAP, Code.DROP, Code.DROP).with(Code.LOAD, 0).with(Code.SPAWN, 1).op(Code.RETURN);
        new Story(checks, "NONE is kept, given and moved", 5, fine, new Code(1, 1, 0, 1).op(Code.RETURN)).turns(1, 1).fiber(0, 1, 1)
            .object(1, 4, 0);
    }

    /** "GET field (0 to 3)" and the others: each has its own, numbers and references apart. */
    private static void fieldsAtTheirEnds() {
        for (int field = 0; field <= 3; field++) {
            Code main = code(0).op(Code.SELF).push(40 + field).with(Code.PUT, field).op(Code.SELF, Code.NEW).with(Code.KEEP, field)
                .op(Code.SELF).with(Code.GET, field).op(Code.OUT, Code.SELF).with(Code.FETCH, field).op(Code.SELF)
                .with(Code.KEEP, 3 - field).op(Code.RETURN);
            Story story = new Story(checks, "field " + field, 5, main).turns(1, 1).output(40 + field).fiber(0, 1, 1);
            for (int k = 0; k < 4; k++) {
                story.object(1, k, k == field ? 40 + field : 0).object(1, 4 + k, k == field ? 2 : 0);
                story.object(2, k, 0).object(2, 4 + k, k == 3 - field ? 1 : 0);
            }
        }
    }

    /** "It goes to the first of the handlers of the instruction: at AT, that number alone on the stack". */
    private static void firstHandler() {
        Code both = code(0).push(1).push(2).push(9).op(Code.RAISE, Code.RETURN, Code.OUT, Code.RETURN, Code.DROP, Code.RETURN);
        both.handler(0, 3, 7).handler(3, 4, 5).handler(3, 4, 7);
        new Story(checks, "the first that covers it", 5, both).turns(1, 1).output(9).fiber(0, 3, 6);
        Code again = code(0).push(9).op(Code.RAISE, Code.RETURN, Code.RAISE, Code.OUT, Code.RETURN).handler(1, 2, 3).handler(3, 4, 4);
        new Story(checks, "a handler's own", 5, again).turns(1, 1).output(9);
        Code below = code(0).push(5).with(Code.CALL, 1).op(Code.OUT, Code.RETURN, Code.OUT, Code.RETURN).handler(0, 1, 4).handler(1, 2, 4);
        Code middle = code(0).with(Code.CALL, 2).op(Code.RETURN);
        new Story(checks, "two frames below", 5, below, middle, code(0).push(3).op(Code.RAISE)).turns(1, 1).output(3).fiber(0, 4, 0);
        Code alone = code(0).push(1).op(Code.SELF).push(9).op(Code.RAISE, Code.RETURN, Code.YIELD, Code.OUT, Code.RETURN).handler(3, 4, 5);
        new Story(checks, "that number alone", 5, alone).turns(1, 1).frame(0, 0, 1, 5).frame(0, 0, 2, 1).frame(0, 0, 30, 9)
            .frame(0, 0, 31, 0).turns(1, 1).output(9);
        Code refill = code(0).push(1).push(2).push(9).op(Code.RAISE, Code.RETURN);
        for (int k = 0; k < 11; k++) {
            refill.push(20 + k);
        }
        for (int k = 0; k < 12; k++) {
            refill.op(Code.OUT);
        }
        new Story(checks, "there is room for eleven more", 5, refill.op(Code.RETURN).handler(3, 4, 5)).turns(1, 1)
            .output(30, 29, 28, 27, 26, 25, 24, 23, 22, 21, 20, 9);
        Code full = code(0);
        for (int k = 0; k < 12; k++) {
            full.push(k);
        }
        full.op(Code.RAISE, Code.RETURN, Code.OUT, Code.RETURN).handler(12, 13, 14);
        new Story(checks, "from a full stack", 5, full).turns(1, 1).output(11).fiber(0, 1, 1);
    }

    /** "The params of a CALL come to the first slots": 0 to 6 of them, in their order; so of a SPAWN. */
    private static void paramsOfCallsAndSpawns() {
        for (int op : new int[] {Code.CALL, Code.SPAWN}) {
            for (int params = 0; params <= 6; params++) {
                Code main = code(0).push(99);
                Code callee = new Code(params, 0, 0, 12);
                int[] wants = new int[params];
                for (int k = 0; k < params; k++) {
                    main.push(10 + k);
                    callee.with(Code.LOAD, k).op(Code.OUT);
                    wants[k] = 10 + k;
                }
                main.with(op, 1).op(Code.RETURN);
                Story story = new Story(checks, op + " with " + params, 5, main, callee.op(Code.RETURN)).turns(1, 1);
                if (op == Code.SPAWN) {
                    for (int k = 0; k < 12; k++) {
                        story.frame(1, 0, 10 + k, k < params ? 10 + k : 0);
                    }
                    story.turns(1, 1);
                }
                story.output(wants).fiber(0, 1, 1);
            }
        }
    }

    /** "RETURN: its own result (what else is on the stack goes)": with 0, 1 and 11 more, and what the caller has stays. */
    private static void resultsOfCalls() {
        for (int more : new int[] {0, 1, 11}) {
            for (int result = 0; result <= 2; result++) {
                Code callee = new Code(1, 0, result, 1);
                for (int k = 0; k < more; k++) {
                    callee.push(60 + k);
                }
                if (result > 0) {
                    callee.op(result == 2 ? Code.SELF : Code.LOAD);
                }
                callee.op(Code.RETURN);
                Code main = code(0).push(4).push(33).with(Code.CALL, 1).op(Code.YIELD);
                main.op(result == 2 ? Code.JNONE : Code.OUT);
                main.patch(main.here() - 1, main.here());
                main.op(result == 0 ? Code.YIELD : Code.OUT).op(Code.RETURN);
                String name = "result " + result + " with " + more + " more";
                Story story = new Story(checks, name, 5, main, callee).turns(1, 1).fiber(0, 4, 1).frame(0, 0, 2, result == 0 ? 1 : 2);
                story.frame(0, 0, 30, 4).frame(0, 0, 31, result == 0 ? 0 : result == 1 ? 33 : 1).frame(0, 0, 32, 0);
                story.turns(2, result == 0 ? 2 : 1).fiber(0, 1, 1);
                if (result == 1) {
                    story.output(33, 4);
                } else {
                    story.output(4);
                }
            }
        }
    }
}
