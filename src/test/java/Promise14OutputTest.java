/** The numbers that were put out: the first 500 are kept. */
public final class Promise14OutputTest {
    public static void main(String[] args) {
        Checks checks = new Checks();
        Code main = new Code(0, 0, 0, 1).push(1).with(Code.STORE, 0).with(Code.LOAD, 0).op(Code.COPY, Code.OUT).push(1)
            .op(Code.ADD).with(Code.STORE, 0).with(Code.JUMP, 2);
        FiberLoom loom = Code.loom(main);
        for (int w = 0; w < 2; w++) {
            checks.due("a world that hasn't begun", loom.output(w, 0), 0);
            loom.begin(w, 0, 99);
            checks.due("nothing yet", loom.output(w, 0), 0);
            loom.turns(w, 1, 1);
            for (int i = 0; i < 100; i++) {
                checks.due("output " + i, loom.output(w, i), i + 1);
            }
            checks.due("output 100", loom.output(w, 100), 0);
            loom.turns(w, 6, 1);
            for (int i = 0; i < 500; i++) {
                checks.due("output " + i, loom.output(w, i), i + 1);
            }
            for (int odd : new int[] {Integer.MIN_VALUE, -1, 500, 501, 699, Integer.MAX_VALUE}) {
                checks.due("output(" + w + ", " + odd + ")", loom.output(w, odd), 0);
            }
            checks.due("how many came", loom.about(w, 3), 700);
        }
        for (int odd : new int[] {Integer.MIN_VALUE, -1, 2, Integer.MAX_VALUE}) {
            checks.due("output(" + odd + ", 0)", loom.output(odd, 0), 0);
        }
        checks.finish();
    }
}
