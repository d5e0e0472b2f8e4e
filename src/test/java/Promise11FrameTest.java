import java.util.Random;

/** What is told of a fiber's frames: as it will go on with them, in both worlds. */
public final class Promise11FrameTest {
    private static final Checks checks = new Checks();

    public static void main(String[] args) {
        fresh();
        deep();
        preemptedAheadOfCall();
        wrongInputs();
        byChance();
        checks.finish();
    }

    private static void fresh() {
        Code main = new Code(0, 0, 0, 0).push(5).op(Code.SELF).push(6).with(Code.SPAWN, 1).op(Code.DROP, Code.RETURN);
        Code worker = new Code(3, 2, 0, 4).with(Code.LOAD, 1).op(Code.DROP).with(Code.LOAD, 2).op(Code.OUT, Code.RETURN);
        Story story = new Story(checks, "new", 5, main, worker);
        story.frame(0, 0, 0, 0).frame(0, 0, 1, 0).frame(0, 0, 2, 0).turns(1, 1);
        story.frame(1, 0, 0, 1).frame(1, 0, 1, 0).frame(1, 0, 2, 0);
        story.frame(1, 0, 10, 0).frame(1, 0, 11, 1).frame(1, 0, 12, 6).frame(1, 0, 13, 0).frame(1, 1, 0, 0);
        story.turns(1, 1).frame(1, 0, 0, 0).frame(1, 0, 11, 0);
    }

    private static void deep() {
        Story story = new Story(checks, "deep", 5, Samples.deep()).turns(1, 1);
        story.frame(0, 0, 0, 0).frame(0, 0, 1, 11).frame(0, 0, 2, 2);
        story.frame(0, 0, 10, 11).frame(0, 0, 11, 2).frame(0, 0, 12, 0).frame(0, 0, 13, 0);
        story.frame(0, 0, 30, 100).frame(0, 0, 31, 1).frame(0, 0, 32, 0);
        story.frame(0, 1, 0, 1).frame(0, 1, 1, 2).frame(0, 1, 2, 2);
        story.frame(0, 1, 10, 0).frame(0, 1, 11, 21).frame(0, 1, 12, 22).frame(0, 1, 13, 0);
        story.frame(0, 1, 30, 2).frame(0, 1, 31, 7).frame(0, 1, 32, 0).frame(0, 2, 0, 0);
        story.turns(1, 1).frame(0, 0, 1, 0).frame(0, 1, 0, 0).frame(0, 1, 30, 0);
    }

    /** Stopped at the SPEND ahead of a CALL, the params are on the stack still. */
    private static void preemptedAheadOfCall() {
        Code main = new Code(0, 0, 0, 1).with(Code.CALL, 1).push(8).op(Code.SELF).push(9).with(Code.CALL, 2);
        main.op(Code.DROP, Code.RETURN);
        Code empty = new Code(0, 0, 0, 0).op(Code.RETURN);
        Code takes = new Code(2, 1, 0, 2).op(Code.RETURN);
        Story story = new Story(checks, "ahead of a CALL", 1, main, empty, takes).turns(1, 1);
        story.fiber(0, 4, 1).frame(0, 0, 1, 4).frame(0, 0, 2, 3).frame(0, 0, 30, 8).frame(0, 0, 31, 1).frame(0, 0, 32, 9);
        story.turns(1, 1).fiber(0, 0, 5);
    }

    private static void wrongInputs() {
        Story story = new Story(checks, "wrong", 5, Samples.deep()).turns(1, 1);
        for (int odd : new int[] {Integer.MIN_VALUE, -1, 3, 9, 15, 22, 29, 33, 42, 43, 60, Integer.MAX_VALUE}) {
            story.frame(0, 1, odd, 0);
        }
        for (int what = 0; what < 45; what++) {
            for (int odd : new int[] {Integer.MIN_VALUE, -1, 2, 30, Integer.MAX_VALUE}) {
                story.frame(0, odd, what, 0).frame(odd, 0, what, 0);
                checks.due("frame(" + odd + ", 0, 1, " + what + ")", story.loom.frame(odd, 0, 1, what), 0);
            }
        }
    }

    /** Both worlds tell the same of every frame after the same turns. */
    private static void byChance() {
        for (int k = 0; k < 200; k++) {
            Random random = new Random(90000 + k);
            Programs programs = new Programs(random);
            Code[] codes = k % 2 == 0 ? programs.make() : programs.makeCrowd();
            FiberLoom loom = new FiberLoom();
            if (Code.load(loom, Code.file(codes)) != 0) {
                continue;
            }
            loom.begin(0, 0, 3);
            loom.begin(1, 0, 3);
            for (int t = 0; t < 30; t++) {
                loom.turns(0, 1, t);
                loom.turns(1, 1, t);
                same(loom, "file " + k + " turn " + t);
            }
        }
    }

    private static void same(FiberLoom loom, String name) {
        for (int f = 0; f < loom.about(0, 1); f++) {
            for (int what = 0; what < 10; what++) {
                checks.due(name + " fiber", loom.fiber(1, f, what), loom.fiber(0, f, what));
            }
            for (int frame = 0; frame < loom.fiber(0, f, 4); frame++) {
                for (int what = 0; what < 44; what++) {
                    checks.due(name + " frame", loom.frame(1, f, frame, what), loom.frame(0, f, frame, what));
                }
            }
        }
    }
}
