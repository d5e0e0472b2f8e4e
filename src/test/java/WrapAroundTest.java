import java.lang.reflect.Array;
import java.lang.reflect.Field;

/**
 * "STEPS of a fiber (a number that wraps, as all counts of them)", "how many numbers came to the
 * OUTPUT (a number that wraps)", "rows done .. (a number that wraps)". No short run of calls comes
 * to where they wrap, so they are set to just ahead of it; should the class keep them elsewhere
 * than here, they are counted all the way.
 */
public final class WrapAroundTest {
    private static final Checks checks = new Checks();
    private static final int MOST = Integer.MAX_VALUE;
    private static final int STEPS_OF_TURN = 4;
    private static final int ROWS_OF_TURN = 12;

    public static void main(String[] args) throws IllegalAccessException {
        Counting.allTheWay(checks, 0, 1L << 26);
        Counting.allTheWay(checks, 1, 1L << 26);
        for (int w = 0; w < 2; w++) {
            for (int ahead = 3; ahead >= -2; ahead--) {
                try {
                    wraps(w, ahead);
                } catch (NoSuchFieldException elsewhere) {
                    Counting.allTheWay(checks, w, 1L << 31);
                    break;
                }
            }
        }
        checks.finish();
    }

    private static Object in(Object holder, String name) throws NoSuchFieldException, IllegalAccessException {
        Field field = holder.getClass().getDeclaredField(name);
        field.setAccessible(true);
        return field.get(holder);
    }

    private static void set(Object holder, String name, int number) throws NoSuchFieldException, IllegalAccessException {
        Field field = holder.getClass().getDeclaredField(name);
        field.setAccessible(true);
        field.setInt(holder, number);
    }

    /** Behind one turn each count is so far ahead of the largest int, or, below 0, behind it. */
    private static void wraps(int w, int ahead) throws NoSuchFieldException, IllegalAccessException {
        FiberLoom loom = Code.loom(new Code(0, 0, 0, 0).out(5).op(Code.YIELD).with(Code.JUMP, 0));
        loom.begin(w, 0, 100);
        loom.turns(w, 2, 1);
        checks.due("STEPS of two turns", loom.fiber(w, 0, 3), STEPS_OF_TURN + 2);
        Object world = in(in(loom, w == 0 ? "plain" : "woven"), "world");
        int due = MOST - ahead;
        set(Array.get(in(world, "fibers"), 0), "steps", due - STEPS_OF_TURN);
        set(world, "allSteps", due - STEPS_OF_TURN);
        set(world, "outputCount", due - 1);
        set(world, "rowsDone", w == 0 ? 0 : due - ROWS_OF_TURN);
        loom.turns(w, 1, 1);
        tells(loom, w, due, due, due);
        loom.turns(w, 1, 1);
        tells(loom, w, due + STEPS_OF_TURN, due + 1, due + ROWS_OF_TURN);
        checks.due("the most STEPS of one RUN", loom.about(w, 5), STEPS_OF_TURN);
        checks.due("the first of the OUTPUT", loom.output(w, 0), 5);
    }

    private static void tells(FiberLoom loom, int w, int steps, int outs, int rows) {
        checks.due("STEPS", loom.fiber(w, 0, 3), steps);
        checks.due("STEPS of all", loom.about(w, 6), steps);
        checks.due("how many came to the OUTPUT", loom.about(w, 3), outs);
        checks.due("rows", loom.about(w, 7), w == 0 ? 0 : rows);
    }
}
