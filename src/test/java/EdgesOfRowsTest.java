/** PART 2: rows and sites with nothing, with one, and with all that fits; row() and packed() at their ends. */
public final class EdgesOfRowsTest {
    private static final Checks checks = new Checks();

    public static void main(String[] args) {
        notSuspendable();
        suspendableButNotReached();
        whereLeftStands();
        stacksAndSlots();
        callsWithParams();
        numbersOfJumps();
        rowAtItsEnds();
        most();
        allThatFits();
        checks.finish();
    }

    private static Code code() {
        return new Code(0, 0, 0, 0);
    }

    private static void rows(String name, FiberLoom loom, int m, int sites, int... wants) {
        checks.due(name + ": ROWS", loom.method(m, 7), wants.length / 2);
        checks.due(name + ": SITES", loom.method(m, 8), sites);
        for (int r = 0; r < wants.length; r++) {
            checks.due(name + ": row(" + m + ", " + r / 2 + ", " + r % 2 + ")", loom.row(m, r / 2, r % 2), wants[r]);
        }
        checks.due(name + ": no more", loom.row(m, wants.length / 2, 0), -1);
        checks.due(name + ": none ahead", loom.row(m, -1, 0), -1);
    }

    /** "One that isn't SUSPENDABLE has its instructions (with 0 where nothing is told with them)". */
    private static void notSuspendable() {
        rows("one alone", Code.loom(code().op(Code.RETURN)), 0, 0, 23, 0);
        rows("PUSHes", Code.loom(code().push(-1).push(Integer.MIN_VALUE).push(Integer.MAX_VALUE).op(Code.RETURN)), 0, 0,
            0, -1, 0, Integer.MIN_VALUE, 0, Integer.MAX_VALUE, 23, 0);
        rows("not reached", Code.loom(code().op(Code.RETURN, Code.YIELD).with(Code.CALL, 0).with(Code.JUMP, 2)), 0, 0,
            23, 0, 32, 0, 22, 0, 12, 2);
    }

    /** "41 SPEND, 42 LEFT, if a SPEND stands ahead ..; 42 LEFT, if it is reached": there is none else. */
    private static void suspendableButNotReached() {
        Code code = code().op(Code.YIELD, Code.RETURN, Code.YIELD).with(Code.CALL, 0).with(Code.JUMP, 4);
        rows("a YIELD that is reached", Code.loom(code), 0, 1,
            40, 0, 32, 0, 42, 7, 23, 0, 32, 0, 22, 0, 12, 6, 44, 0, 12, 1);
    }

    /** "LEFT, if .. a POINT or a CALL of a SUSPENDABLE method", which may be itself or come later. */
    private static void whereLeftStands() {
        Code plain = code().op(Code.RETURN);
        Code yields = code().op(Code.YIELD, Code.RETURN);
        Code calls = code().with(Code.CALL, 1).op(Code.RETURN);
        rows("CALL of one that isn't", Code.loom(calls, plain), 0, 1, 40, 0, 41, 0, 42, 5, 22, 1, 23, 0, 44, 0, 12, 1);
        rows("CALL of one that is", Code.loom(calls, yields), 0, 2,
            40, 0, 41, 0, 42, 6, 22, 1, 42, 8, 23, 0, 44, 0, 12, 1, 44, 1, 12, 3);
        rows("CALL of one that calls one that isn't", Code.loom(calls, code().with(Code.CALL, 2).op(Code.RETURN), plain), 0, 2,
            40, 0, 41, 0, 42, 6, 22, 1, 42, 8, 23, 0, 44, 0, 12, 1, 44, 1, 12, 3);
        rows("CALL of itself", Code.loom(code().with(Code.CALL, 0).op(Code.RETURN)), 0, 2,
            40, 0, 41, 0, 42, 6, 22, 0, 42, 8, 23, 0, 44, 0, 12, 1, 44, 1, 12, 3);
        rows("SPAWN of one that is", Code.loom(code().with(Code.SPAWN, 1).op(Code.RETURN), yields), 0, 0, 27, 1, 23, 0);
    }

    /** "PACK .. for each on its STACK, from the top down; for each slot .. by rising numbers": 0, 1 and 12 of each. */
    private static void stacksAndSlots() {
        for (int many : new int[] {0, 1, 2, 11, 12}) {
            for (int slots : new int[] {0, 1, 2, 11, 12}) {
                full(many, slots);
            }
        }
    }

    private static int ofR(int k) {
        return k % 3 == 1 ? 1 : 0;
    }

    private static void full(int many, int slots) {
        Code code = new Code(0, 0, 0, slots);
        for (int v = 0; v < slots; v++) {
            code.op(ofR(v) == 1 ? Code.NONE : Code.PUSH).with(Code.STORE, v);
        }
        for (int k = 0; k < many; k++) {
            code.op(ofR(k + 1) == 1 ? Code.NONE : Code.PUSH);
        }
        int at = code.here();
        code.op(Code.YIELD);
        for (int k = 0; k < many; k++) {
            code.op(Code.DROP);
        }
        for (int v = 0; v < slots; v++) {
            code.with(Code.LOAD, v).op(Code.DROP);
        }
        code.op(Code.RETURN);
        String name = many + " on the stack, " + slots + " slots";
        FiberLoom loom = Code.loom(code);
        int row = 1 + code.here() + 1;
        checks.due(name + ": LEFT", loom.row(0, at + 2, 0), 42);
        checks.due(name + ": where AWAY begins", loom.row(0, at + 2, 1), row);
        for (int k = many - 1; k >= 0; k--) {
            row = row(name, loom, row, 43, ofR(k + 1));
        }
        for (int v = 0; v < slots; v++) {
            row = row(name, loom, row, 2, v);
            row = row(name, loom, row, 43, ofR(v));
        }
        row = row(name, loom, row, 44, 0);
        for (int v = slots - 1; v >= 0; v--) {
            row = row(name, loom, row, 45, ofR(v));
            row = row(name, loom, row, 3, v);
        }
        for (int k = 0; k < many; k++) {
            row = row(name, loom, row, 45, ofR(k + 1));
        }
        row = row(name, loom, row, 12, at + 1);
        checks.due(name + ": ROWS", loom.method(0, 7), row);
        checks.due(name + ": no more", loom.row(0, row, 0), -1);
        Story story = new Story(checks, name, 5, code).turns(1, 1).frame(0, 0, 1, at).frame(0, 0, 2, many);
        checks.due(name + ": SITES packed", story.loom.packed(0, 0, -1), 1);
        checks.due(name + ": all packed", story.loom.packed(0, 1, -1) + story.loom.packed(0, 2, -1), many + slots);
        story.turns(1, 1).fiber(0, 1, 1);
    }

    private static int row(String name, FiberLoom loom, int row, int op, int number) {
        checks.due(name + ": OP of row " + row, loom.row(0, row, 0), op);
        checks.due(name + ": number of row " + row, loom.row(0, row, 1), number);
        return row + 1;
    }

    /** "of a CALL, for each of its params, 0 PUSH 0 or 1 NONE": 0 to 6 params below a full stack. */
    private static void callsWithParams() {
        for (int params = 0; params <= 6; params++) {
            int types = 0b101101 & (1 << params) - 1;
            Code main = code();
            for (int k = 0; k < 12 - params; k++) {
                main.push(k);
            }
            for (int k = 0; k < params; k++) {
                main.op((types >> k & 1) == 1 ? Code.SELF : Code.PUSH);
            }
            main.with(Code.CALL, 1).op(Code.RETURN);
            Code callee = new Code(params, types, 0, params).op(Code.YIELD, Code.RETURN);
            FiberLoom loom = Code.loom(main, callee);
            String name = "CALL with " + params;
            int row = 1 + 12 + 4 + 1;
            checks.due(name + ": the SPEND's AWAY", loom.row(0, 14, 1), row);
            row += 12 + 1 + 12 + 1;
            checks.due(name + ": the CALL's AWAY", loom.row(0, 16, 1), row);
            for (int k = 0; k < 12 - params; k++) {
                row = row(name, loom, row, 43, 0);
            }
            row = row(name, loom, row, 44, 1);
            for (int k = 0; k < 12 - params; k++) {
                row = row(name, loom, row, 45, 0);
            }
            for (int k = 0; k < params; k++) {
                row = row(name, loom, row, (types >> k & 1) == 1 ? 1 : 0, 0);
            }
            row = row(name, loom, row, 12, 15);
            checks.due(name + ": ROWS", loom.method(0, 7), row);
            Story story = new Story(checks, name, 5, main, callee).turns(1, 1).fiber(0, 4, 2);
            story.frame(0, 0, 1, 12).frame(0, 0, 2, 12 - params).frame(0, 0, 30 + 12 - params, 0).turns(1, 1).fiber(0, 1, 1);
        }
    }

    /** "Jumps go to where the rows of the instruction begin": ahead of its SPEND, also of one not reached. */
    private static void numbersOfJumps() {
        Code code = code().push(0).with(Code.JZERO, 3).with(Code.JUMP, 0).with(Code.JUMP, 2).with(Code.JUMP, 3);
        rows("jumps", Code.loom(code), 0, 2,
            40, 0, 0, 0, 13, 6, 41, 0, 42, 10, 12, 1, 41, 0, 42, 12, 12, 3, 12, 6,
            44, 0, 12, 3, 44, 1, 12, 6);
    }

    /** "Of ROW r of a method: its OP (0), its number (1). NONE for others; no such row." */
    private static void rowAtItsEnds() {
        FiberLoom loom = Code.loom(code().op(Code.YIELD, Code.RETURN));
        int last = loom.method(0, 7) - 1;
        checks.due("ROWS", last, 5);
        int[][] dues = {{0, 0, 0, 40}, {0, 0, 1, 0}, {0, 0, -1, -1}, {0, 0, 2, -1}, {0, -1, 0, -1}, {0, -1, 1, -1},
            {0, last, 0, 12}, {0, last, 1, 1}, {0, last, 2, -1}, {0, last + 1, 0, -1}, {0, last + 1, 1, -1},
            {-1, 0, 0, -1}, {1, 0, 0, -1}, {1, 0, 1, -1}, {Integer.MIN_VALUE, 0, 0, -1}, {Integer.MAX_VALUE, 0, 0, -1},
            {0, Integer.MIN_VALUE, 0, -1}, {0, Integer.MAX_VALUE, 0, -1}, {0, 0, Integer.MIN_VALUE, -1},
            {0, 0, Integer.MAX_VALUE, -1}};
        for (int[] one : dues) {
            checks.due("row(" + one[0] + ", " + one[1] + ", " + one[2] + ")", loom.row(one[0], one[1], one[2]), one[3]);
        }
    }

    /** 120 instructions, and as many CALLs among them as can be with all 12 slots LIVE: two sites, 100 rows for each. */
    private static void most() {
        Code code = new Code(0, 0, 0, 12);
        for (int v = 0; v < 12; v++) {
            code.push(v).with(Code.STORE, v);
        }
        int first = code.here();
        while (code.here() < 94) {
            code.with(Code.CALL, 0);
        }
        int calls = code.here() - first;
        for (int v = 0; v < 12; v++) {
            code.with(Code.LOAD, v).op(Code.DROP);
        }
        code.op(Code.RETURN).op(Code.RETURN);
        FiberLoom loom = Code.loom(code);
        checks.due("instructions", loom.method(0, 4), 120);
        checks.due("SITES", loom.method(0, 8), 2 * calls);
        int rows = 1 + 120 + 3 * calls + 2 * calls * (24 + 1 + 24 + 1);
        checks.due("ROWS", loom.method(0, 7), rows);
        checks.due("the last QUIT", loom.row(0, rows - 26, 0), 44);
        checks.due("its site", loom.row(0, rows - 26, 1), 2 * calls - 1);
        checks.due("the last row", loom.row(0, rows - 1, 0), 12);
        checks.due("the last CALL's row", loom.row(0, rows - 1, 1), 1 + first + 4 * (calls - 1) + 2);
        checks.due("none behind it", loom.row(0, rows, 0), -1);
    }

    /** 30 frames with 12 slots that are LIVE and 12 on the stack each: 720 are packed, and come back. */
    private static void allThatFits() {
        Code code = new Code(0, 0, 0, 12);
        for (int v = 0; v < 12; v++) {
            code.op(Code.SELF).with(v % 2 == 0 ? Code.GET : Code.FETCH, 0).with(Code.STORE, v);
        }
        code.op(Code.SELF, Code.COPY).with(Code.GET, 0).push(1).op(Code.ADD).with(Code.PUT, 0);
        code.op(Code.SELF).with(Code.GET, 0).push(30).op(Code.SUB);
        int jump = code.here();
        code.with(Code.JZERO, 0);
        twelve(code);
        code.with(Code.CALL, 0);
        int over = code.here();
        code.with(Code.JUMP, 0);
        code.patch(jump, code.here());
        twelve(code);
        code.op(Code.YIELD);
        code.patch(over, code.here());
        for (int k = 0; k < 12; k++) {
            code.op(Code.DROP);
        }
        for (int v = 0; v < 12; v++) {
            code.with(Code.LOAD, v).op(v == 0 ? Code.OUT : Code.DROP);
        }
        Story story = new Story(checks, "all that fits", 100, code.op(Code.RETURN)).turns(1, 1).fiber(0, 4, 30);
        checks.due("SITES", story.loom.packed(0, 0, -1), 30);
        checks.due("all", story.loom.packed(0, 1, -1) + story.loom.packed(0, 2, -1), 720);
        int[] wants = new int[30];
        for (int k = 0; k < 30; k++) {
            story.frame(0, k, 2, 12).frame(0, k, 10, k).frame(0, k, 30, 3).frame(0, k, 41, 1);
            wants[k] = 29 - k;
        }
        story.turns(1, 1).output(wants).fiber(0, 1, 1);
    }

    private static void twelve(Code code) {
        for (int k = 0; k < 6; k++) {
            code.push(3 + k).op(Code.SELF);
        }
    }
}
