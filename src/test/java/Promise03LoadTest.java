/** The tape's first bytes are a FILE: it is read, or what there was stays. */
public final class Promise03LoadTest {
    private static final Checks checks = new Checks();

    private static Code small(int number) {
        return new Code(0, 0, 1, 0).push(number).op(Code.OUT).push(number).op(Code.RETURN);
    }

    public static void main(String[] args) {
        numbers();
        faultKeepsAll();
        loadEmptiesWorlds();
        tapeIsEmptied();
        largest();
        checks.finish();
    }

    private static void numbers() {
        FiberLoom loom = new FiberLoom();
        int[] bytes = Code.file(small(7));
        Code.feed(loom, bytes);
        for (int n : new int[] {-1, -20, Integer.MIN_VALUE, 41, 60, 6001, Integer.MAX_VALUE}) {
            checks.due("load(" + n + ")", loom.load(n), -1);
        }
        checks.due("nothing was told", loom.fault(0), 0);
        checks.due("the tape is still there", loom.load(bytes.length), 0);
        checks.due("load(0) of nothing", new FiberLoom().load(0), 1);
    }

    private static void faultKeepsAll() {
        FiberLoom loom = Code.loom(small(7));
        loom.begin(0, 0, 3);
        loom.begin(1, 0, 3);
        loom.turns(0, 1, 1);
        loom.turns(1, 1, 1);
        checks.due("a bad file", Code.load(loom, new int[] {70, 66, 1, 7}), 1);
        checks.due("and one of bad types", Code.load(loom, Code.file(new Code(0, 0, 0, 0).op(Code.DROP))), 2);
        checks.due("method(0, 4)", loom.method(0, 4), 4);
        for (int w = 0; w < 2; w++) {
            checks.due("output", loom.output(w, 0), 7);
            checks.due("state", loom.fiber(w, 0, 0), 5);
            checks.due("time", loom.about(w, 0), 1);
            checks.due("it goes on", loom.turns(w, 2, 1), 0);
            checks.due("time goes on", loom.about(w, 0), 3);
        }
        checks.due("load of too many keeps all", loom.load(99), -1);
        checks.due("fault is of the latest one", loom.fault(0), 2);
    }

    private static void loadEmptiesWorlds() {
        FiberLoom loom = Code.loom(small(7));
        loom.begin(0, 0, 3);
        loom.begin(1, 0, 3);
        loom.turns(0, 1, 1);
        loom.turns(1, 1, 1);
        checks.due("another file", Code.load(loom, Code.file(small(1), small(2))), 0);
        checks.due("its methods", loom.method(1, 4), 4);
        checks.due("what it tells", loom.instruction(1, 0, 1), 2);
        for (int w = 0; w < 2; w++) {
            checks.due("turns", loom.turns(w, 1, 1), -1);
            checks.due("fiber", loom.fiber(w, 0, 0), -1);
            checks.due("object", loom.object(w, 1, 8), 0);
            checks.due("output", loom.output(w, 0), 0);
            for (int what = 0; what < 9; what++) {
                checks.due("about " + what, loom.about(w, what), 0);
            }
            checks.due("begin", loom.begin(w, 1, 3), true);
            checks.due("turns of the new file", loom.turns(w, 1, 1), 1);
            checks.due("output of the new file", loom.output(w, 0), 2);
        }
    }

    private static void tapeIsEmptied() {
        FiberLoom loom = new FiberLoom();
        int[] bytes = Code.file(small(7));
        Code.feed(loom, bytes);
        Code.feed(loom, bytes);
        checks.due("load", loom.load(bytes.length), 0);
        checks.due("what was behind it went too", loom.load(1), -1);
        Code.feed(loom, bytes);
        checks.due("a file that ends too early", loom.load(bytes.length - 1), 1);
        checks.due("the tape is empty then too", loom.load(1), -1);
        checks.due("and again", Code.load(loom, bytes), 0);
    }

    /** 24 methods, 12 slots, 120 instructions, 6 handlers. */
    private static void largest() {
        Code[] codes = new Code[24];
        for (int m = 0; m < codes.length; m++) {
            codes[m] = new Code(m == 0 ? 0 : 6, m == 0 ? 0 : 42, 2, 12);
            while (codes[m].here() < 118) {
                codes[m].op(m == 0 ? Code.SELF : Code.NEW).op(Code.DROP);
            }
            codes[m].op(Code.NONE, Code.RETURN);
            for (int h = 0; h < 6 && m == 0; h++) {
                codes[m].handler(h, h + 2, 119);
            }
        }
        codes[0] = new Code(0, 0, 2, 12);
        for (int k = 0; k < 58; k++) {
            codes[0].op(Code.SELF, Code.DROP);
        }
        codes[0].op(Code.NONE, Code.RETURN, Code.DROP).with(Code.JUMP, 116);
        for (int h = 0; h < 6; h++) {
            codes[0].handler(h, 100, 118);
        }
        int[] bytes = Code.file(codes);
        FiberLoom loom = new FiberLoom();
        checks.due("the largest file", Code.load(loom, bytes), 0);
        checks.due("its last method", loom.method(23, 0), 6);
        checks.due("its instructions", loom.method(0, 4), 120);
        checks.due("its handlers", loom.method(0, 5), 6);
        Code[] more = new Code[25];
        System.arraycopy(codes, 0, more, 0, 24);
        more[24] = small(1);
        checks.due("25 methods", Code.load(loom, Code.file(more)), 1);
        checks.due("told at", loom.fault(1), 2);
    }
}
