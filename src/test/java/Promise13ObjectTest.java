/** What is told of an object. */
public final class Promise13ObjectTest {
    private static final Checks checks = new Checks();

    public static void main(String[] args) {
        fields();
        queues();
        wrongInputs();
        checks.finish();
    }

    private static void fields() {
        Code main = new Code(0, 0, 0, 1).op(Code.NEW).with(Code.STORE, 0);
        for (int k = 0; k < 4; k++) {
            main.with(Code.LOAD, 0).push(-10 - k).with(Code.PUT, k);
            main.with(Code.LOAD, 0).op(k % 2 == 0 ? Code.SELF : Code.NEW).with(Code.KEEP, k);
        }
        main.op(Code.RETURN);
        Story story = new Story(checks, "fields", 5, main).object(1, 8, -1).turns(1, 1);
        int[] wants = {-10, -11, -12, -13, 1, 3, 1, 4, -1, 0, 0, 0};
        for (int what = 0; what < wants.length; what++) {
            story.object(2, what, wants[what]);
            story.object(4, what, what == 8 ? -1 : 0);
            story.object(5, what, 0);
        }
        story.loom.begin(0, 0, 5);
        story.loom.begin(1, 0, 5);
        story.object(1, 8, -1).object(2, 0, 0).object(2, 8, 0);
    }

    /** Main holds the lock of its own object; others come to its queue and its waiters. */
    private static void queues() {
        Code main = new Code(0, 0, 0, 0);
        for (int k = 1; k < 6; k++) {
            main.op(Code.SELF).with(Code.SPAWN, 1).op(Code.DROP);
        }
        main.push(8).op(Code.SLEEP, Code.SELF, Code.LOCK, Code.SELF, Code.LOCK);
        for (int k = 6; k < 9; k++) {
            main.op(Code.SELF).with(Code.SPAWN, 2).op(Code.DROP);
        }
        main.push(20).op(Code.SLEEP, Code.SELF).with(Code.WAKE, 0).push(20).op(Code.SLEEP, Code.SELF)
            .with(Code.WAKE, 1).push(20).op(Code.SLEEP, Code.RETURN);
        Code waits = new Code(1, 1, 0, 1).with(Code.LOAD, 0).op(Code.LOCK).with(Code.LOAD, 0).op(Code.WAIT, Code.RETURN);
        Code locks = new Code(1, 1, 0, 1).with(Code.LOAD, 0).op(Code.LOCK, Code.RETURN);
        Story story = new Story(checks, "queues", 5, main, waits, locks).turns(6, 6).object(1, 11, 5).object(1, 8, -1);
        int[] waiters = new int[5];
        for (int k = 0; k < 5; k++) {
            waiters[k] = story.loom.object(0, 1, 50 + k);
        }
        story.object(1, 55, 0).object(1, 49, 0).object(1, 20, 0);
        story.turns(14, 4).object(1, 8, 0).object(1, 9, 2).object(1, 10, 3).object(1, 11, 5);
        int[] queue = new int[3];
        for (int k = 0; k < 3; k++) {
            queue[k] = story.loom.object(0, 1, 20 + k);
            checks.due("who is in the queue", queue[k] >= 6 && queue[k] < 9, true);
        }
        story.object(1, 23, 0).turns(9, 1).object(1, 10, 4).object(1, 11, 4).object(1, 23, waiters[0]);
        for (int k = 0; k < 4; k++) {
            story.object(1, 50 + k, waiters[k + 1]);
        }
        story.object(1, 54, 0).turns(20, 1).object(1, 10, 8).object(1, 11, 0).object(1, 50, 0);
        for (int k = 0; k < 5; k++) {
            story.object(1, 23 + k, waiters[k]);
        }
    }

    private static void wrongInputs() {
        FiberLoom loom = Code.loom(new Code(0, 0, 0, 0).op(Code.SELF, Code.LOCK, Code.YIELD, Code.RETURN));
        loom.begin(0, 0, 1);
        loom.turns(0, 1, 1);
        checks.due("owner", loom.object(0, 1, 8), 0);
        checks.due("count", loom.object(0, 1, 9), 1);
        for (int odd : new int[] {Integer.MIN_VALUE, -1, 12, 19, 20, 21, 49, 50, 51, 99, Integer.MAX_VALUE}) {
            checks.due("object(0, 1, " + odd + ")", loom.object(0, 1, odd), 0);
        }
        for (int what = 0; what < 60; what++) {
            for (int odd : new int[] {Integer.MIN_VALUE, -1, 0, 2, 300, 301, Integer.MAX_VALUE}) {
                checks.due("object(0, " + odd + ", " + what + ")", loom.object(0, odd, what), 0);
            }
            for (int odd : new int[] {Integer.MIN_VALUE, -1, 1, 2, Integer.MAX_VALUE}) {
                checks.due("object(" + odd + ", 1, " + what + ")", loom.object(odd, 1, what), 0);
            }
        }
    }
}
