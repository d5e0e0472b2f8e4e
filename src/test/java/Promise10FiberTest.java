/** What is told of a fiber. */
public final class Promise10FiberTest {
    private static final Checks checks = new Checks();

    public static void main(String[] args) {
        wrongInputs();
        everyState();
        framesAndSteps();
        checks.finish();
    }

    private static void wrongInputs() {
        FiberLoom loom = Code.loom(new Code(0, 0, 0, 0).op(Code.YIELD, Code.RETURN));
        loom.begin(0, 0, 1);
        for (int odd : new int[] {Integer.MIN_VALUE, -1, 10, 11, 20, Integer.MAX_VALUE}) {
            checks.due("fiber(0, 0, " + odd + ")", loom.fiber(0, 0, odd), -1);
        }
        for (int what = 0; what < 10; what++) {
            for (int odd : new int[] {Integer.MIN_VALUE, -1, 1, 2, 24, Integer.MAX_VALUE}) {
                checks.due("fiber(0, " + odd + ", " + what + ")", loom.fiber(0, odd, what), -1);
                checks.due("fiber(" + odd + ", 0, " + what + ")", loom.fiber(odd, 0, what), -1);
            }
            checks.due("a world that hasn't begun", loom.fiber(1, 0, what), -1);
        }
    }

    private static void all(Story story, int f, int... wants) {
        for (int what = 0; what < wants.length; what++) {
            story.fiber(f, what, wants[what]);
        }
    }

    /** One fiber in each state, all at once. */
    private static void everyState() {
        Code main = new Code(0, 0, 0, 1).op(Code.NEW, Code.COPY).with(Code.STORE, 0).op(Code.LOCK);
        for (int k = 1; k < 7; k++) {
            main.with(Code.LOAD, 0).with(Code.SPAWN, k).op(Code.DROP);
        }
        main.push(40).op(Code.SLEEP, Code.RETURN);
        Code locks = new Code(1, 1, 0, 1).with(Code.LOAD, 0).op(Code.LOCK, Code.RETURN);
        Code waits = new Code(1, 1, 0, 1).op(Code.NEW, Code.COPY, Code.LOCK, Code.WAIT, Code.RETURN);
        Code joins = new Code(1, 1, 0, 1).op(Code.SELF, Code.JOIN, Code.OUT, Code.RETURN);
        Code gives = new Code(1, 1, 1, 1).push(-3).op(Code.RETURN);
        Code raises = new Code(1, 1, 0, 1).push(12).op(Code.RAISE);
        Code later = new Code(1, 1, 0, 1).push(9).op(Code.SLEEP, Code.YIELD, Code.RETURN);
        Story story = new Story(checks, "states", 5, main, locks, waits, joins, gives, raises, later).turns(7, 7);
        all(story, 0, 3, 0, 0, 23, 1, 0, 0, 1, 34, -1);
        all(story, 1, 1, 0, 0, 1, 1, 0, 0, 3, 0, 2);
        int made = story.loom.about(0, 2);
        story.about(2, 9);
        checks.due("objects", made, 9);
        all(story, 2, 2, 0, 0, 3, 1, 0, 0, 4, 0, 9);
        all(story, 3, 4, 0, 0, 1, 1, 0, 0, 5, 0, 3);
        all(story, 4, 5, 1, -3, 2, 0, 0, 0, 6, 0, -1);
        all(story, 5, 5, 2, 12, 2, 0, 0, 0, 7, 0, -1);
        story.fiber(6, 0, 3).fiber(6, 3, 1).fiber(6, 7, 8).fiber(6, 9, -1);
        int sleeps = story.loom.fiber(0, 6, 8);
        checks.due("it sleeps", sleeps > 0 && sleeps <= 9, true);
        story.turns(sleeps - 1, 0).fiber(6, 8, 1).turns(1, 1).fiber(6, 0, 0).fiber(6, 6, 1).fiber(6, 8, 0).fiber(6, 3, 2);
        story.turns(1, 1).fiber(6, 0, 5).fiber(6, 1, 1).fiber(6, 6, 0).fiber(6, 3, 4).fiber(6, 4, 0);
    }

    private static void framesAndSteps() {
        Story story = new Story(checks, "deep", 5, Samples.deep()).fiber(0, 4, 1);
        story.turns(1, 1).fiber(0, 4, 2).fiber(0, 3, 14).fiber(0, 6, 1).fiber(0, 0, 0);
        story.turns(1, 1).fiber(0, 4, 0).fiber(0, 1, 1).fiber(0, 2, 100 - 1 + 11 + 7).fiber(0, 3, 30);
        Story joined = new Story(checks, "joined", 2, Samples.joined()).turns(1, 1).fiber(1, 4, 1).fiber(2, 4, 1);
        joined.fiber(0, 0, 4).fiber(0, 9, 2);
    }
}
