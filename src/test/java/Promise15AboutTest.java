/** What is told of a world. */
public final class Promise15AboutTest {
    private static final Checks checks = new Checks();

    public static void main(String[] args) {
        counts();
        rows();
        rings();
        wrongInputs();
        checks.finish();
    }

    private static void counts() {
        Story story = new Story(checks, "counts", 2, Samples.joined());
        story.about(0, 0).about(1, 1).about(2, 1).about(4, 1).about(20, 0).about(21, -1);
        story.turns(1, 1).about(0, 1).about(1, 3).about(2, 3).about(3, 0).about(4, 2).about(5, 5).about(6, 5);
        story.about(20, 1).about(21, 2).about(22, -1);
        story.turns(1, 1).about(0, 2).about(3, 3).about(4, 2).about(5, 28).about(6, 33);
        story.turns(50, 4).about(0, 52).about(4, 0).about(20, -1).about(1, 3);
    }

    /** ENTER, PUSH, YIELD, LEFT, PACK, QUIT; ENTER, UNPACK, JUMP, YIELD, LEFT, OUT, RETURN. */
    private static void rows() {
        Code main = new Code(0, 0, 0, 0).push(1).op(Code.YIELD, Code.OUT, Code.RETURN);
        FiberLoom loom = Code.loom(main);
        loom.begin(0, 0, 5);
        loom.begin(1, 0, 5);
        loom.turns(0, 1, 1);
        loom.turns(1, 1, 1);
        checks.due("rows till it stopped", loom.about(1, 7), 6);
        loom.turns(0, 1, 1);
        loom.turns(1, 1, 1);
        checks.due("rows till it ended", loom.about(1, 7), 13);
        checks.due("none in world 0", loom.about(0, 7), 0);
        Code each = new Code(0, 0, 0, 0).push(3).with(Code.EACH, 1).op(Code.RETURN);
        Code put = new Code(1, 0, 0, 1).with(Code.LOAD, 0).op(Code.OUT, Code.RETURN);
        FiberLoom other = Code.loom(each, put);
        other.begin(1, 0, 5);
        other.turns(1, 1, 1);
        checks.due("an EACH is begun once", other.about(1, 7), 12);
        FiberLoom deep = Code.loom(Samples.deep());
        deep.begin(1, 0, 5);
        deep.turns(1, 1, 1);
        checks.due("rows of two frames", deep.about(1, 7), 14 + 1 + 5 + 7 + 1 + 7);
    }

    private static void rings() {
        Code main = new Code(0, 0, 0, 2).op(Code.NEW).with(Code.STORE, 0).op(Code.NEW).with(Code.STORE, 1);
        main.with(Code.LOAD, 0).with(Code.LOAD, 1).with(Code.SPAWN, 1).op(Code.DROP);
        main.with(Code.LOAD, 1).with(Code.LOAD, 0).with(Code.SPAWN, 1).op(Code.JOIN, Code.OUT, Code.RETURN);
        Code worker = new Code(2, 3, 0, 2).with(Code.LOAD, 0).op(Code.LOCK).push(1).op(Code.SLEEP);
        worker.with(Code.LOAD, 1).op(Code.LOCK, Code.RETURN);
        Story story = new Story(checks, "locks", 5, main, worker).about(8, 0).turns(1, 1).about(8, 0).turns(9, 4);
        story.about(8, 2).fiber(0, 0, 4).fiber(1, 0, 1).fiber(2, 0, 1);
        Code joins = new Code(0, 0, 0, 0).op(Code.SELF).with(Code.SPAWN, 1).op(Code.JOIN, Code.OUT, Code.RETURN);
        Code other = new Code(1, 1, 0, 1).op(Code.SELF).with(Code.SPAWN, 2).op(Code.DROP).with(Code.LOAD, 0)
            .op(Code.JOIN, Code.OUT, Code.RETURN);
        Code third = new Code(1, 1, 0, 1).with(Code.LOAD, 0).op(Code.JOIN, Code.OUT, Code.RETURN);
        new Story(checks, "joins", 5, joins, other, third).turns(9, 3).about(8, 2).fiber(2, 0, 4).fiber(2, 9, 1);
    }

    private static void wrongInputs() {
        FiberLoom loom = Code.loom(new Code(0, 0, 0, 0).op(Code.YIELD, Code.RETURN));
        loom.begin(0, 0, 1);
        for (int odd : new int[] {Integer.MIN_VALUE, -1, 9, 10, 19, 21, 44, 100, Integer.MAX_VALUE}) {
            checks.due("about(0, " + odd + ")", loom.about(0, odd), -1);
        }
        for (int what = 0; what < 50; what++) {
            for (int odd : new int[] {Integer.MIN_VALUE, -1, 2, Integer.MAX_VALUE}) {
                checks.due("about(" + odd + ", " + what + ")", loom.about(odd, what), -1);
            }
            checks.due("a world that hasn't begun, " + what, loom.about(1, what), what < 9 ? 0 : -1);
        }
    }
}
