import java.util.Arrays;

/** PART 1, each byte of a FILE: all 256 that might stand there, so both sides of each limit. */
public final class EdgesOfFilesTest {
    private static final Checks checks = new Checks();
    private static final int MOST_INSTRUCTIONS = 120;

    public static void main(String[] args) {
        firstBytes();
        paramsAndTypes();
        resultAndSlots();
        instructionsAndHandlers();
        ops();
        slotsThatAreTold();
        instructionsThatAreTold();
        methodsThatAreTold();
        fieldsAndWakes();
        handlerBytes();
        theEnd();
        theFirstBehindAll();
        smallestAndLargest();
        checks.finish();
    }

    private static int[] bytes(int... all) {
        return all;
    }

    private static int[] and(int[] first, int... more) {
        int[] all = Arrays.copyOf(first, first.length + more.length);
        System.arraycopy(more, 0, all, first.length, more.length);
        return all;
    }

    /**
     * The byte behind these can be there from low to high: the file is at its end then, one place
     * further on; else that byte itself is told.
     */
    private static void range(String sentence, int[] ahead, int low, int high) {
        FiberLoom loom = new FiberLoom();
        for (int one = 0; one < 256; one++) {
            boolean fits = one >= low && one <= high;
            String name = sentence + ": " + one + " behind " + Arrays.toString(ahead);
            int[] all = and(ahead, one);
            checks.due(name, Code.load(loom, all), 1);
            checks.due(name + ", fault(0)", loom.fault(0), 1);
            checks.due(name + ", fault(1)", loom.fault(1), fits ? all.length : ahead.length);
            checks.due(name + ", fault(2)", loom.fault(2), -1);
        }
    }

    /** "70, 66, how many METHODS (1 to 24 ..)". */
    private static void firstBytes() {
        range("70", bytes(), 70, 70);
        range("66", bytes(70), 66, 66);
        range("METHODS", bytes(70, 66), 1, 24);
    }

    /** "how many PARAMS (0 to 6); their TYPES (.. the bits above them are 0)". */
    private static void paramsAndTypes() {
        range("PARAMS", bytes(70, 66, 1), 0, 6);
        range("PARAMS", bytes(70, 66, 24), 0, 6);
        int[] most = {0, 1, 3, 7, 15, 31, 63};
        for (int params = 0; params <= 6; params++) {
            range("TYPES", bytes(70, 66, 1, params), 0, most[params]);
        }
    }

    /** "its RESULT (0 none, 1 .., 2 ..); how many SLOTS (as many as params at least, 12 at most)". */
    private static void resultAndSlots() {
        for (int params = 0; params <= 6; params++) {
            range("RESULT", bytes(70, 66, 1, params, 0), 0, 2);
            range("SLOTS", bytes(70, 66, 1, params, 0, 2), params, 12);
        }
    }

    /** "INSTRUCTIONS (1 to 120), HANDLERS (0 to 6)". */
    private static void instructionsAndHandlers() {
        range("INSTRUCTIONS", bytes(70, 66, 1, 0, 0, 0, 0), 1, MOST_INSTRUCTIONS);
        range("INSTRUCTIONS", bytes(70, 66, 1, 6, 63, 2, 12), 1, MOST_INSTRUCTIONS);
        range("HANDLERS", bytes(70, 66, 1, 0, 0, 0, 0, 1), 0, 6);
        range("HANDLERS", bytes(70, 66, 1, 0, 0, 0, 0, 120), 0, 6);
    }

    /** A method's beginning; it has handlers, so that no file is whole with its last instruction. */
    private static int[] method(int methods, int slots, int instructions) {
        return bytes(70, 66, methods, 0, 0, 0, slots, instructions, 3);
    }

    /** OPS are 0 to 36; a PUSH has four bytes that are free, most others none. */
    private static void ops() {
        range("the first OP", method(1, 1, 2), 0, 36);
        int[] push = and(method(1, 0, 2), 0);
        for (int k = 0; k < 4; k++) {
            range("byte " + k + " of a PUSH", push, 0, 255);
            push = and(push, 255 - k);
        }
        range("the OP behind a PUSH", push, 0, 36);
        for (int op = 0; op <= 36; op++) {
            if (op != Code.PUSH && !Code.tells(op)) {
                range("the OP behind " + op, and(method(1, 0, 2), op), 0, 36);
            }
        }
        for (int op : new int[] {2, 3, 12, 13, 14, 15, 16, 18, 19, 20, 21, 22, 27, 28, 31}) {
            range("the OP behind " + op + " 0", and(method(1, 1, 3), op, 0), 0, 36);
        }
    }

    /** "also for what was told ahead: a slot .. that there is none". */
    private static void slotsThatAreTold() {
        for (int slots : new int[] {0, 1, 2, 11, 12}) {
            range("LOAD", and(method(1, slots, 2), Code.LOAD), 0, slots - 1);
            range("STORE", and(method(1, slots, 2), Code.STORE), 0, slots - 1);
        }
    }

    /** ".. an instruction .. that there is none". */
    private static void instructionsThatAreTold() {
        for (int op = Code.JUMP; op <= Code.JSAME; op++) {
            for (int count : new int[] {1, 2, 119, 120}) {
                range("jump " + op, and(method(1, 0, count), op), 0, count - 1);
            }
        }
    }

    /** ".. a method that there is none"; methods that come later are there too. */
    private static void methodsThatAreTold() {
        for (int op : new int[] {Code.CALL, Code.SPAWN, Code.EACH}) {
            for (int methods : new int[] {1, 2, 23, 24}) {
                range("method of " + op, and(method(methods, 0, 1), op), 0, methods - 1);
            }
        }
    }

    /** "field (0 to 3)", "WAKE 0 (one) or 1 (all)". */
    private static void fieldsAndWakes() {
        for (int op = Code.GET; op <= Code.KEEP; op++) {
            range("field of " + op, and(method(1, 0, 1), op), 0, 3);
        }
        range("WAKE", and(method(1, 0, 1), Code.WAKE), 0, 1);
    }

    /**
     * "FROM, TO, AT (each the number of an instruction that there is; FROM below TO, TO not above
     * AT; a byte can be there if all this is so with those ahead of it)".
     */
    private static void handlerBytes() {
        for (int count : new int[] {1, 2, 3, 120}) {
            int[] ahead = method(1, 0, count);
            for (int k = 0; k < count; k++) {
                ahead = and(ahead, Code.RETURN);
            }
            range("FROM of " + count, ahead, 0, count - 1);
            for (int from = 0; from < count; from += Math.max(1, count / 3)) {
                range("TO of " + count, and(ahead, from), from + 1, count - 1);
                for (int to = from + 1; to < count; to += Math.max(1, count / 3)) {
                    range("AT of " + count, and(ahead, from, to), to, count - 1);
                }
            }
            range("FROM is the last one", and(ahead, count - 1), count, count - 1);
        }
        int[] second = and(method(1, 0, 3), Code.RETURN, Code.RETURN, Code.RETURN, 1, 2, 2);
        range("FROM of the second handler", second, 0, 2);
        range("TO of the second handler", and(second, 0), 1, 2);
        range("AT of the second handler", and(second, 0, 1), 1, 2);
    }

    private static Code[] several() {
        Code first = new Code(2, 1, 1, 12).push(-1).op(Code.OUT).push(3).op(Code.RETURN, Code.RETURN).handler(0, 2, 4);
        return new Code[] {first, new Code(0, 0, 0, 0).op(Code.RETURN), Samples.joined()[0].with(Code.JUMP, 0)};
    }

    /** "FAULT 1: .. or the end": of a whole file each shorter one ends too early, at its end. */
    private static void theEnd() {
        int[] whole = Code.file(several());
        FiberLoom loom = new FiberLoom();
        for (int n = 0; n < whole.length; n++) {
            Code.feed(loom, whole);
            checks.due("load(" + n + ") of " + whole.length, loom.load(n), 1);
            checks.due("where it ends", loom.fault(1), n);
            checks.due("no instruction", loom.fault(2), -1);
        }
    }

    /** "FAULT 1: .. the first one behind all", whatever byte that is. */
    private static void theFirstBehindAll() {
        int[] whole = Code.file(new Code(0, 0, 0, 0).op(Code.RETURN));
        FiberLoom loom = new FiberLoom();
        checks.due("the whole file", Code.load(loom, whole), 0);
        checks.due("its place", loom.fault(1), -1);
        for (int one = 0; one < 256; one++) {
            checks.due("one more, " + one, Code.load(loom, and(whole, one)), 1);
            checks.due("its place", loom.fault(1), whole.length);
        }
        checks.due("two more", Code.load(loom, and(whole, 70, 66)), 1);
        checks.due("the first of them", loom.fault(1), whole.length);
        checks.due("a fault of types is not looked for then",
            Code.load(loom, and(Code.file(new Code(0, 0, 0, 0).op(Code.DROP)), 0)), 1);
    }

    private static Code sized(int params, int slots, int instructions, int handlers) {
        Code code = new Code(params, (1 << params) - 1, 0, slots);
        for (int k = 0; k < instructions; k++) {
            code.op(Code.RETURN);
        }
        for (int h = 0; h < handlers; h++) {
            code.handler(instructions - 2, instructions - 1, instructions - 1);
        }
        return code;
    }

    private static void sizes(int methods, int params, int slots, int instructions, int handlers) {
        Code[] codes = new Code[methods];
        Arrays.fill(codes, sized(params, slots, instructions, handlers));
        String name = methods + " methods of " + params + ", " + slots + ", " + instructions + ", " + handlers;
        FiberLoom loom = new FiberLoom();
        checks.due(name, Code.load(loom, Code.file(codes)), 0);
        int[] wants = {params, (1 << params) - 1, 0, slots, instructions, handlers, 0, instructions, 0};
        for (int m = 0; m < methods; m++) {
            for (int what = 0; what < wants.length; what++) {
                checks.due(name + ": method(" + m + ", " + what + ")", loom.method(m, what), wants[what]);
            }
        }
        checks.due(name + ": no more", loom.method(methods, 0), -1);
    }

    /** The smallest of all, the largest of all, and what is one step from them. */
    private static void smallestAndLargest() {
        sizes(1, 0, 0, 1, 0);
        sizes(2, 1, 1, 2, 1);
        sizes(1, 6, 6, 120, 6);
        sizes(23, 5, 11, 119, 5);
        sizes(24, 6, 12, 120, 6);
        sizes(24, 0, 0, 1, 0);
    }
}
