/** The rows of rewritten methods. */
public final class Promise07RowTest {
    public static void main(String[] args) {
        Checks checks = new Checks();
        byHand(checks);
        ownSite(checks);
        wrongInputs(checks);
        for (Code[] codes : new Code[][] {Samples.joined(), Samples.deep(), Samples.mixed()}) {
            new Compare(checks, Code.loom(codes), new Model(codes)).methods();
        }
        checks.finish();
    }

    private static void rows(Checks checks, FiberLoom loom, int m, int... wants) {
        checks.due("how many rows of " + m, loom.method(m, 7), wants.length / 2);
        for (int r = 0; r < wants.length / 2; r++) {
            checks.due("row(" + m + ", " + r + ", 0)", loom.row(m, r, 0), wants[2 * r]);
            checks.due("row(" + m + ", " + r + ", 1)", loom.row(m, r, 1), wants[2 * r + 1]);
        }
        checks.due("no more rows", loom.row(m, wants.length / 2, 0), -1);
    }

    private static void byHand(Checks checks) {
        FiberLoom loom = Code.loom(Samples.deep());
        rows(checks, loom, 1,
            40, 0, 2, 0, 0, 7, 32, 0, 42, 10, 19, 0, 2, 1, 2, 2, 8, 0, 23, 0,
            43, 0, 43, 1, 2, 1, 43, 0, 2, 2, 43, 0, 44, 0,
            45, 0, 3, 2, 45, 0, 3, 1, 45, 1, 45, 0, 12, 3);
        Code plain = new Code(1, 0, 0, 1).with(Code.LOAD, 0).with(Code.JZERO, 3).op(Code.RETURN).push(-2).op(Code.RAISE);
        rows(checks, Code.loom(plain), 0, 2, 0, 13, 3, 23, 0, 0, -2, 24, 0);
        Code lost = new Code(0, 0, 0, 0).with(Code.JUMP, 2).op(Code.YIELD).with(Code.JUMP, 2);
        rows(checks, Code.loom(lost), 0, 40, 0, 12, 3, 32, 0, 41, 0, 42, 6, 12, 3, 44, 0, 12, 3);
    }

    /** A CALL's own site leaves out the params, its SPEND doesn't. */
    private static void ownSite(Checks checks) {
        Code main = new Code(0, 0, 0, 1);
        main.push(3).with(Code.STORE, 0).push(1).op(Code.NONE).push(2).with(Code.CALL, 1);
        main.op(Code.DROP).with(Code.LOAD, 0).op(Code.OUT).with(Code.CALL, 2).op(Code.RETURN);
        Code stops = new Code(2, 1, 0, 2).op(Code.YIELD, Code.RETURN);
        Code runs = new Code(0, 0, 0, 0).op(Code.RETURN);
        rows(checks, Code.loom(main, stops, runs), 0,
            40, 0, 0, 3, 3, 0, 0, 1, 1, 0, 0, 2, 41, 0, 42, 17, 22, 1, 42, 29,
            4, 0, 2, 0, 25, 0, 41, 0, 42, 39, 22, 2, 23, 0,
            43, 0, 43, 1, 43, 0, 2, 0, 43, 0, 44, 0, 45, 0, 3, 0, 45, 0, 45, 1, 45, 0, 12, 6,
            43, 0, 2, 0, 43, 0, 44, 1, 45, 0, 3, 0, 45, 0, 1, 0, 0, 0, 12, 8,
            44, 2, 12, 13);
    }

    private static void wrongInputs(Checks checks) {
        FiberLoom loom = Code.loom(Samples.deep());
        for (int odd : new int[] {Integer.MIN_VALUE, -1, 24, 25, Integer.MAX_VALUE}) {
            checks.due("row(1, " + odd + ", 0)", loom.row(1, odd, 0), -1);
            checks.due("row(" + odd + ", 0, 0)", loom.row(odd, 0, 0), -1);
        }
        for (int what : new int[] {Integer.MIN_VALUE, -1, 2, 3, Integer.MAX_VALUE}) {
            checks.due("row(1, 0, " + what + ")", loom.row(1, 0, what), -1);
        }
    }
}
