/** What a fiber of world 1 has packed. */
public final class Promise12PackedTest {
    private static final Checks checks = new Checks();

    private static void packed(FiberLoom loom, int which, int... wants) {
        checks.due("packed(0, " + which + ", -1)", loom.packed(0, which, -1), wants.length);
        for (int k = 0; k < wants.length; k++) {
            checks.due("packed(0, " + which + ", " + k + ")", loom.packed(0, which, k), wants[k]);
        }
        for (int odd : new int[] {Integer.MIN_VALUE, -2, wants.length, wants.length + 1, Integer.MAX_VALUE}) {
            checks.due("packed(0, " + which + ", " + odd + ")", loom.packed(0, which, odd), 0);
        }
    }

    public static void main(String[] args) {
        FiberLoom loom = Code.loom(Samples.deep());
        packed(loom, 0);
        loom.begin(0, 0, 5);
        loom.turns(0, 1, 1);
        packed(loom, 0);
        loom.begin(1, 0, 5);
        packed(loom, 0);
        packed(loom, 1);
        packed(loom, 2);
        loom.turns(1, 1, 1);
        packed(loom, 0, 0, 1);
        packed(loom, 1, 7, 21, 22, 100, 11);
        packed(loom, 2, 2, 1, 2);
        for (int odd : new int[] {Integer.MIN_VALUE, -1, 3, 4, Integer.MAX_VALUE}) {
            checks.due("packed(0, " + odd + ", 0)", loom.packed(0, odd, 0), 0);
            checks.due("packed(0, " + odd + ", -1)", loom.packed(0, odd, -1), 0);
        }
        for (int odd : new int[] {Integer.MIN_VALUE, -1, 1, 24, Integer.MAX_VALUE}) {
            checks.due("packed(" + odd + ", 0, -1)", loom.packed(odd, 0, -1), 0);
            checks.due("packed(" + odd + ", 1, 0)", loom.packed(odd, 1, 0), 0);
        }
        loom.turns(1, 1, 1);
        packed(loom, 0);
        packed(loom, 1);
        packed(loom, 2);
        fullest();
        checks.finish();
    }

    /** 30 frames, each with all that fits: what is packed comes back. */
    private static void fullest() {
        Code main = new Code(0, 0, 1, 0).push(28).with(Code.CALL, 1).op(Code.RETURN);
        Code deep = new Code(1, 0, 1, 12);
        for (int v = 1; v < 12; v++) {
            deep.with(Code.LOAD, 0).push(v * 100).op(Code.ADD).with(Code.STORE, v);
        }
        for (int v = 1; v < 11; v++) {
            deep.with(Code.LOAD, v);
        }
        deep.with(Code.LOAD, 0);
        int jump = deep.here();
        deep.with(Code.JZERO, 0).with(Code.LOAD, 0).push(1).op(Code.SUB).with(Code.CALL, 1);
        int over = deep.here();
        deep.with(Code.JUMP, 0);
        deep.patch(jump, deep.here());
        deep.op(Code.YIELD).push(0);
        deep.patch(over, deep.here());
        for (int v = 1; v < 11; v++) {
            deep.op(Code.ADD);
        }
        for (int v = 0; v < 12; v++) {
            deep.with(Code.LOAD, v).op(Code.ADD);
        }
        deep.op(Code.RETURN);
        Story story = new Story(checks, "fullest", 100, main, deep).turns(1, 1).fiber(0, 4, 30);
        checks.due("sites", story.loom.packed(0, 0, -1), 30);
        checks.due("numbers", story.loom.packed(0, 1, -1), 29 * 22);
        int sum = 0;
        for (int n = 0; n <= 28; n++) {
            sum += n;
            for (int v = 1; v < 12; v++) {
                sum += (v < 11 ? 2 : 1) * (n + v * 100);
            }
        }
        story.turns(1, 1).fiber(0, 2, sum);
    }
}
