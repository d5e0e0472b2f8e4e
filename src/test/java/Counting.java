/**
 * A fiber that does as much as can be in one turn, till its counts have come round: it takes a
 * minute, so it is used only where the counts can't be set to where they are about to wrap.
 */
final class Counting {
    private static final int TIMES = 59;
    /** An EACH of 4, with its PUSH; each call does LOAD and OUT so many times, and RETURNs. */
    private static final long STEPS_OF_EACH = 2 + 4 * (2 * TIMES + 1);
    private static final long STEPS_OF_LOOP = TIMES * STEPS_OF_EACH;
    private static final long OUTS_OF_LOOP = TIMES * 4 * TIMES;
    /** With a quantum of 100 the SPEND stops when it is come to for the 101st time. */
    private static final long LOOPS = 101;

    private Counting() {
    }

    private static FiberLoom busy() {
        Code main = new Code(0, 0, 0, 0);
        Code each = new Code(1, 0, 0, 1);
        for (int k = 0; k < TIMES; k++) {
            main.push(4).with(Code.EACH, 1);
            each.with(Code.LOAD, 0).op(Code.OUT);
        }
        return Code.loom(main.with(Code.JUMP, 0), each.op(Code.RETURN));
    }

    /** The first turn has one JUMP fewer: the one at which it stops is done in the next. */
    private static long steps(long turns) {
        return turns * LOOPS * (STEPS_OF_LOOP + 1) - 1;
    }

    /**
     * SPEND and LEFT ahead of each JUMP; the SPEND that stops again when it goes on; ENTER and QUIT
     * in each turn, and the AGAIN's JUMP in each but the first.
     */
    private static long rows(long turns) {
        return steps(turns) + 2 * turns * LOOPS + 2 * (turns - 1) + 2 * turns + turns - 1;
    }

    static void allTheWay(Checks checks, int w, long leastOuts) {
        FiberLoom loom = busy();
        checks.due("begin", loom.begin(w, 0, 100), true);
        long turns = 0;
        for (int call = 0; call < 100 && turns * LOOPS * OUTS_OF_LOOP <= leastOuts; call++) {
            checks.due("turns", loom.turns(w, 50, 1), 50);
            turns += 50;
            String at = "world " + w + " after " + turns + " turns: ";
            checks.due(at + "STEPS", loom.fiber(w, 0, 3), (int) steps(turns));
            checks.due(at + "STEPS of all", loom.about(w, 6), (int) steps(turns));
            checks.due(at + "most STEPS", loom.about(w, 5), LOOPS * (STEPS_OF_LOOP + 1));
            checks.due(at + "OUTPUT", loom.about(w, 3), (int) (turns * LOOPS * OUTS_OF_LOOP));
            checks.due(at + "rows", loom.about(w, 7), w == 0 ? 0 : (int) rows(turns));
            checks.due(at + "the last that is kept", loom.output(w, 499), 499 / TIMES % 4);
        }
    }
}
