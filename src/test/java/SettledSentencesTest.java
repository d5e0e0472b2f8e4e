/** The sentences of the document that settle what once seemed unsure; each has its test here. */
public final class SettledSentencesTest {
    private static final Checks checks = new Checks();

    public static void main(String[] args) {
        tapeIsEmptyThen();
        howManyArePacked();
        stepsAsTheyAreBegun();
        twelveTurnsAgoOrMore();
        noSuchObjectHasZero();
        checks.finish();
    }

    private static Code code(int slots) {
        return new Code(0, 0, 0, slots);
    }

    /**
     * Promise 3: "The first n bytes of the TAPE (which is empty then) are a FILE: 0, and that is
     * read ..; else its FAULT": it is empty in both cases, and stays as it is with NONE.
     */
    private static void tapeIsEmptyThen() {
        int[] whole = Code.file(code(0).op(Code.RETURN));
        int[] fault1 = Code.file(new Code(0, 0, 0, 13).op(Code.RETURN));
        int[] fault2 = Code.file(code(0).op(Code.DROP));
        int[][] files = {whole, fault1, fault2};
        for (int kind = 0; kind < 3; kind++) {
            FiberLoom loom = new FiberLoom();
            Code.feed(loom, files[kind]);
            Code.feed(loom, whole);
            checks.due("too many", loom.load(41), -1);
            checks.due("too few", loom.load(-1), -1);
            checks.due("load", loom.load(files[kind].length), kind);
            checks.due("nothing is left, not even one", loom.load(1), -1);
            checks.due("load of nothing", loom.load(0), 1);
            checks.due("what comes is the first again", Code.load(loom, whole), 0);
            for (int k = 0; k < 300; k++) {
                checks.due("there is room for all", loom.feed(k, k, k, k, k), true);
            }
            checks.due("and for no more", loom.feed(0, 0, 0, 0, 0), false);
            checks.due("a FAULT with a full tape", loom.load(6000), 1);
            checks.due("empties it", loom.load(1), -1);
            checks.due("so that there is room", loom.feed(0, 0, 0, 0, 0), true);
        }
    }

    /** Promise 12: "with k - 1 how many there are": -2, -1, 0, with 0, 1 and 2 of them. */
    private static void howManyArePacked() {
        for (int numbers = 0; numbers <= 2; numbers++) {
            for (int refs = 0; refs <= 2; refs++) {
                Code main = code(0);
                for (int k = 0; k < numbers; k++) {
                    main.push(50 + k);
                }
                for (int k = 0; k < refs; k++) {
                    main.op(Code.SELF);
                }
                FiberLoom loom = Code.loom(main.op(Code.YIELD, Code.RETURN));
                loom.begin(1, 0, 5);
                for (int which = 0; which < 3; which++) {
                    checks.due("none of a new one", loom.packed(0, which, -1), 0);
                }
                loom.turns(1, 1, 1);
                int[] wants = {1, numbers, refs};
                int[] first = {0, numbers == 0 ? 0 : 50 + numbers - 1, refs == 0 ? 0 : 1};
                for (int which = 0; which < 3; which++) {
                    checks.due("how many", loom.packed(0, which, -1), wants[which]);
                    checks.due("the first", loom.packed(0, which, 0), first[which]);
                    checks.due("none at -2", loom.packed(0, which, -2), 0);
                    checks.due("none behind all", loom.packed(0, which, wants[which]), 0);
                    checks.due("none of another fiber", loom.packed(1, which, -1), 0);
                }
                checks.due("which -1", loom.packed(0, -1, -1), 0);
                checks.due("which 3", loom.packed(0, 3, -1), 0);
                loom.turns(1, 1, 1);
                checks.due("none when it ENDED", loom.packed(0, 0, -1) + loom.packed(0, 1, -1) + loom.packed(0, 2, -1), 0);
            }
        }
    }

    /**
     * PART 3: "STEPS of a fiber ..: instructions as they are begun; but of a POINT just when it
     * goes on or raises": a SPEND that raises DEATH comes ahead of its instruction, a POINT that
     * raises it is one, a POINT or a SPEND that stops is none.
     */
    private static void stepsAsTheyAreBegun() {
        Code atSpend = code(0).op(Code.SELF, Code.KILL).with(Code.CALL, 1).op(Code.RETURN);
        new Story(checks, "DEATH at a SPEND", 5, atSpend, code(0).op(Code.RETURN)).turns(1, 1).fiber(0, 2, -9).fiber(0, 3, 2)
            .about(5, 2).about(6, 2);
        Code atPoint = code(0).op(Code.SELF, Code.KILL, Code.YIELD, Code.RETURN);
        new Story(checks, "DEATH at a POINT", 5, atPoint).turns(1, 1).fiber(0, 2, -9).fiber(0, 3, 3).about(5, 3).about(6, 3);
        Code stops = code(0).op(Code.YIELD).with(Code.CALL, 1).with(Code.CALL, 1).op(Code.RETURN);
        new Story(checks, "stopping", 1, stops, code(0).op(Code.RETURN)).turns(1, 1).fiber(0, 3, 0).turns(1, 1).fiber(0, 3, 3)
            .turns(1, 1).fiber(0, 3, 6).about(5, 3).about(6, 6);
        Code raises = code(0).op(Code.NONE).with(Code.GET, 0).op(Code.RETURN);
        new Story(checks, "one that raises was begun", 5, raises).turns(1, 1).fiber(0, 2, -1).fiber(0, 3, 2);
    }

    /** PART 3: "Those that were KILLED 12 turns ago or more and haven't ENDED are ABANDONED": 11, 12, 13 turns ago. */
    private static void twelveTurnsAgoOrMore() {
        for (int quiet = 0; quiet <= 3; quiet++) {
            Code main = code(0).op(Code.SELF).with(Code.SPAWN, 1).push(quiet).op(Code.SLEEP, Code.YIELD, Code.SELF, Code.LOCK)
                .op(Code.KILL).push(100).op(Code.SLEEP, Code.RETURN);
            Code waits = new Code(1, 1, 0, 1).with(Code.LOAD, 0).op(Code.LOCK).with(Code.LOAD, 0).op(Code.WAIT, Code.RETURN);
            Story story = new Story(checks, "KILLED later by " + quiet, 5, main, waits).run(0).run(1).fiber(1, 0, 2);
            for (int k = 0; k < 9 && story.loom.fiber(0, 1, 5) == 0; k++) {
                story.turns(1, quiet > 1 && k < quiet - 2 ? 0 : 1);
            }
            story.fiber(1, 5, 1).fiber(1, 0, 1);
            for (int ago = 1; ago <= 11; ago++) {
                story.turns(1, 0).fiber(1, 0, 1).fiber(1, 1, 0).object(1, 10, 1);
            }
            story.turns(1, 0).fiber(1, 0, 5).fiber(1, 1, 3).fiber(1, 2, -9).object(1, 10, 0).turns(1, 0).fiber(1, 1, 3);
        }
    }

    /** Promise 13: "0 for others, or no such object or place": also the OWNER of no such object, which has - 1 for none else. */
    private static void noSuchObjectHasZero() {
        FiberLoom loom = Code.loom(code(0).op(Code.NEW, Code.DROP, Code.RETURN));
        for (int w = 0; w < 2; w++) {
            checks.due("ahead of begin()", loom.object(w, 1, 8), 0);
            loom.begin(w, 0, 5);
            checks.due("its own", loom.object(w, 1, 8), -1);
            checks.due("object 2 isn't made yet", loom.object(w, 2, 8), 0);
            loom.turns(w, 1, 1);
            checks.due("object 2 is made", loom.object(w, 2, 8), -1);
            checks.due("object 3 isn't", loom.object(w, 3, 8), 0);
            checks.due("object 0 is none", loom.object(w, 0, 8), 0);
            checks.due("object -1 is none", loom.object(w, -1, 8), 0);
            checks.due("no such place", loom.object(w, 1, 20) + loom.object(w, 1, 50), 0);
            loom.begin(w, 0, 5);
            checks.due("object 2 went", loom.object(w, 2, 8), 0);
        }
        checks.due("no such world", loom.object(2, 1, 8), 0);
        checks.due("no such world", loom.object(-1, 1, 8), 0);
    }
}
