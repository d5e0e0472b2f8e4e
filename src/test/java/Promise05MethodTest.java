/** What is told of a method that was read. */
public final class Promise05MethodTest {
    public static void main(String[] args) {
        Checks checks = new Checks();
        for (Code[] codes : new Code[][] {Samples.joined(), Samples.deep(), Samples.mixed()}) {
            FiberLoom loom = Code.loom(codes);
            new Compare(checks, loom, new Model(codes)).methods();
            for (int what : new int[] {-1, 9, 10, Integer.MIN_VALUE, Integer.MAX_VALUE}) {
                checks.due("method(0, " + what + ")", loom.method(0, what), -1);
            }
            for (int m : new int[] {-1, codes.length, 24, Integer.MIN_VALUE, Integer.MAX_VALUE}) {
                for (int what = 0; what < 9; what++) {
                    checks.due("method(" + m + ", " + what + ")", loom.method(m, what), -1);
                }
            }
        }
        byHand(checks);
        suspendable(checks);
        checks.finish();
    }

    private static void byHand(Checks checks) {
        FiberLoom loom = Code.loom(Samples.deep());
        int[] wants = {3, 1, 1, 5, 8, 0, 1, 24, 1};
        for (int what = 0; what < wants.length; what++) {
            checks.due("method(1, " + what + ")", loom.method(1, what), wants[what]);
        }
    }

    private static void is(Checks checks, String name, boolean due, Code code) {
        Code other = new Code(0, 0, 0, 0).op(Code.RETURN);
        FiberLoom loom = Code.loom(code, other);
        checks.due(name, loom.method(0, 6), due ? 1 : 0);
        checks.due(name + ": the other one", loom.method(1, 6), 0);
    }

    private static void suspendable(Checks checks) {
        is(checks, "plain", false, new Code(0, 0, 0, 0).op(Code.RETURN));
        is(checks, "a point", true, new Code(0, 0, 0, 0).op(Code.YIELD, Code.RETURN));
        is(checks, "a point that isn't reached", false, new Code(0, 0, 0, 0).op(Code.RETURN, Code.YIELD));
        is(checks, "a call", true, new Code(0, 0, 0, 0).with(Code.CALL, 1).op(Code.RETURN));
        is(checks, "a call that isn't reached", false, new Code(0, 0, 0, 0).op(Code.RETURN).with(Code.CALL, 1));
        is(checks, "a jump to itself", true, new Code(0, 0, 0, 0).with(Code.JUMP, 0));
        is(checks, "a jump on", false, new Code(0, 0, 0, 0).with(Code.JUMP, 1).op(Code.RETURN));
        is(checks, "a spawn", false, new Code(0, 0, 0, 0).with(Code.SPAWN, 1).op(Code.DROP, Code.RETURN));
    }
}
