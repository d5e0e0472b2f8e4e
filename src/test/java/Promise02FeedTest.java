/** Twenty bytes more on the tape, the highest first, 6,000 at most. */
public final class Promise02FeedTest {
    public static void main(String[] args) {
        Checks checks = new Checks();
        order(checks);
        limit(checks);
        checks.finish();
    }

    private static void order(Checks checks) {
        FiberLoom loom = new FiberLoom();
        checks.due("feed", loom.feed(0x46420100, 0x00010002, 0x000080ff, 0x01fe1700, -1), true);
        checks.due("load(15)", loom.load(15), 0);
        checks.due("four bytes of a PUSH", loom.instruction(0, 0, 1), 0x80ff01fe);
        Code code = new Code(0, 0, 0, 0);
        for (int k = 0; k < 30; k++) {
            code.push(0x01020304 * k).op(Code.DROP);
        }
        code.op(Code.RETURN);
        FiberLoom many = Code.loom(code);
        for (int k = 0; k < 30; k++) {
            checks.due("PUSH " + k, many.instruction(0, 2 * k, 1), 0x01020304 * k);
        }
    }

    private static void limit(Checks checks) {
        FiberLoom loom = new FiberLoom();
        for (int k = 0; k < 300; k++) {
            checks.due("feed " + k, loom.feed(0x46420000, 0, 0, 0, 0), true);
        }
        checks.due("feed 300", loom.feed(1, 2, 3, 4, 5), false);
        checks.due("feed 301", loom.feed(1, 2, 3, 4, 5), false);
        checks.due("load(6001)", loom.load(6001), -1);
        checks.due("load(6020)", loom.load(6020), -1);
        checks.due("load(6000)", loom.load(6000), 1);
        checks.due("its place", loom.fault(1), 2);
        checks.due("the tape is empty", loom.load(1), -1);
        for (int k = 0; k < 300; k++) {
            checks.due("feed again " + k, loom.feed(0, 0, 0, 0, 0), true);
        }
        checks.due("feed again 300", loom.feed(0, 0, 0, 0, 0), false);
        checks.due("load again", loom.load(6000), 1);
    }
}
