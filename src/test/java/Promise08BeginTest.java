/** A world begins anew with fiber 0 of a method. */
public final class Promise08BeginTest {
    private static final Checks checks = new Checks();

    public static void main(String[] args) {
        Code first = new Code(0, 0, 1, 0).out(1).op(Code.NEW, Code.DROP).push(3).op(Code.RETURN);
        Code param = new Code(1, 0, 0, 1).op(Code.RETURN);
        Code loops = new Code(0, 0, 0, 0).out(4).with(Code.JUMP, 0);
        FiberLoom loom = Code.loom(first, param, loops);
        wrongInputs(loom);
        fresh(loom);
        anew(loom);
        quantums(loom);
        checks.finish();
    }

    private static void wrongInputs(FiberLoom loom) {
        int[][] wrong = {{-1, 0, 1}, {2, 0, 1}, {0, -1, 1}, {0, 3, 1}, {0, 1, 1}, {0, 0, 0}, {0, 0, -1},
            {0, 0, 101}, {1, 0, 101}, {1, 1, 5}, {1, 24, 5}, {0, 0, Integer.MAX_VALUE},
            {Integer.MIN_VALUE, 0, 1}, {0, Integer.MAX_VALUE, 1}, {0, Integer.MIN_VALUE, 1}};
        for (int[] one : wrong) {
            String name = "begin(" + one[0] + ", " + one[1] + ", " + one[2] + ")";
            checks.due(name, loom.begin(one[0], one[1], one[2]), false);
        }
        for (int w = 0; w < 2; w++) {
            checks.due("nothing happened", loom.about(w, 1), 0);
            checks.due("nothing began", loom.turns(w, 1, 1), -1);
        }
    }

    private static void fresh(FiberLoom loom) {
        for (int w = 0; w < 2; w++) {
            checks.due("begin", loom.begin(w, 0, 1), true);
            checks.due("the other world", loom.about(1 - w, 1), w);
            int[] about = {0, 1, 1, 0, 1, 0, 0, 0, 0};
            for (int what = 0; what < about.length; what++) {
                checks.due("about(" + w + ", " + what + ")", loom.about(w, what), about[what]);
            }
            checks.due("the ready row", loom.about(w, 20), 0);
            int[] fiber = {0, 0, 0, 0, 1, 0, 0, 1, 0, -1};
            for (int what = 0; what < fiber.length; what++) {
                checks.due("fiber(" + w + ", 0, " + what + ")", loom.fiber(w, 0, what), fiber[what]);
            }
        }
    }

    private static void anew(FiberLoom loom) {
        for (int w = 0; w < 2; w++) {
            checks.due("turns", loom.turns(w, 5, 1), 1);
            checks.due("its object", loom.about(w, 2), 2);
            checks.due("a wrong one", loom.begin(w, 1, 1), false);
            checks.due("changes nothing", loom.fiber(w, 0, 2), 3);
            checks.due("begin again", loom.begin(w, 2, 7), true);
            checks.due("time", loom.about(w, 0), 0);
            checks.due("objects", loom.about(w, 2), 1);
            checks.due("output", loom.about(w, 3), 0);
            checks.due("nothing put out", loom.output(w, 0), 0);
            checks.due("steps", loom.about(w, 6), 0);
            checks.due("most steps", loom.about(w, 5), 0);
            checks.due("rows", loom.about(w, 7), 0);
            checks.due("state", loom.fiber(w, 0, 0), 0);
            checks.due("method", loom.frame(w, 0, 0, 0), 2);
            checks.due("packed", loom.packed(0, 0, -1), 0);
        }
    }

    /** A loop of one SPEND a round: with a quantum of q it comes q + 1 times to the OUT at first. */
    private static void quantums(FiberLoom loom) {
        for (int w = 0; w < 2; w++) {
            for (int quantum : new int[] {1, 2, 50, 100}) {
                checks.due("begin with " + quantum, loom.begin(w, 2, quantum), true);
                checks.due("one turn", loom.turns(w, 1, 1), 1);
                checks.due("numbers put out", loom.about(w, 3), quantum + 1);
                checks.due("one turn more", loom.turns(w, 1, 1), 1);
                checks.due("numbers put out then", loom.about(w, 3), 2 * quantum + 2);
            }
        }
    }
}
