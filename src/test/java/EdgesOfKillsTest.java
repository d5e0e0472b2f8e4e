/** PART 3, KILL, ABANDONED and ENDS: in every state, and one turn to either side of the twelfth. */
public final class EdgesOfKillsTest {
    private static final Checks checks = new Checks();

    public static void main(String[] args) {
        twelveTurnsAgo();
        haveNotEnded();
        abandonedByNumbers();
        killAgainChangesNothing();
        ofNoneOrNoFiber();
        ofOneThatEnded();
        ofOneReady();
        ofOnePassing();
        ofItself();
        ofOneNew();
        ofOneSleeping();
        ofOneJoining();
        ofOneLockingByLock();
        ofOneLockingBehindAWait();
        ofOneLockingByWake();
        ofOneWaiting();
        ofOneWaitingWithNoOwner();
        ofOneReadyWithALock();
        deathAtEachPoint();
        endsReturned();
        endsRaised();
        endsAndLetsGo();
        abandonedLetsGo();
        checks.finish();
    }

    private static Code code(int slots) {
        return new Code(0, 0, 0, slots);
    }

    /** A method that is given main's object. */
    private static Code given() {
        return new Code(1, 1, 0, 1);
    }

    /** Main spawns one with its object, yields, kills it, and yields on and on. */
    private static Code killer() {
        return code(0).op(Code.SELF).with(Code.SPAWN, 1).op(Code.COPY, Code.YIELD, Code.KILL, Code.YIELD).with(Code.JUMP, 5);
    }

    private static Code locked(Code code) {
        return code.with(Code.LOAD, 0).op(Code.LOCK);
    }

    /** "Those that were KILLED 12 turns ago or more": a new one that never runs, after 11, 12 and 13. */
    private static void twelveTurnsAgo() {
        Story story = new Story(checks, "12 turns ago", 5, killer(), given().op(Code.YIELD, Code.RETURN)).run(0).run(0);
        story.fiber(1, 5, 1).fiber(1, 0, 0).about(0, 2);
        for (int ago = 1; ago <= 11; ago++) {
            story.run(0).fiber(1, 0, 0).fiber(1, 1, 0).fiber(1, 4, 1).about(4, 2).about(0, 2 + ago);
        }
        story.turns(1, 1).fiber(1, 0, 5).fiber(1, 1, 3).fiber(1, 2, -9).fiber(1, 4, 0).fiber(1, 3, 0).about(4, 1).about(0, 14);
        story.turns(1, 1).fiber(1, 1, 3).fiber(1, 5, 1).fiber(1, 0, 5);
        Story runs = new Story(checks, "11 turns ago it may still run", 5, killer(), given().out(7).op(Code.YIELD, Code.RETURN));
        runs.run(0).run(0);
        for (int ago = 1; ago <= 10; ago++) {
            runs.run(0);
        }
        runs.run(1).about(0, 13).output(7).fiber(1, 1, 2).fiber(1, 2, -9).turns(3, 3).fiber(1, 1, 2);
    }

    /** ".. and haven't ENDED": one that ended in the meantime is what it was. */
    private static void haveNotEnded() {
        Code worker = given().op(Code.YIELD, Code.RETURN, Code.RETURN).handler(0, 1, 2);
        Story story = new Story(checks, "ENDED in time", 5, killer(), worker).run(0).run(1).run(0).fiber(1, 5, 1).fiber(1, 6, 1);
        story.run(1).fiber(1, 0, 5).fiber(1, 1, 1).turns(20, 20).fiber(1, 1, 1).fiber(1, 2, 0);
        Code own = code(0).op(Code.SELF, Code.KILL, Code.RETURN);
        new Story(checks, "RETURNED in the turn of its KILL", 5, own).turns(1, 1).fiber(0, 1, 1).fiber(0, 5, 1).turns(20, 0)
            .fiber(0, 1, 1);
    }

    /** "ABANDONED, by numbers": whom they let go comes to the row in that order. */
    private static void abandonedByNumbers() {
        Code main = code(2).with(Code.SPAWN, 1).op(Code.COPY).with(Code.STORE, 0).with(Code.SPAWN, 2).op(Code.DROP)
            .with(Code.SPAWN, 1).op(Code.COPY).with(Code.STORE, 1).with(Code.SPAWN, 2).op(Code.DROP, Code.YIELD)
            .with(Code.LOAD, 1).op(Code.KILL).with(Code.LOAD, 0).op(Code.KILL, Code.YIELD).with(Code.JUMP, 15);
        Code doomed = code(0).op(Code.RETURN);
        Code joins = given().with(Code.LOAD, 0).op(Code.JOIN, Code.OUT, Code.RETURN);
        Story story = new Story(checks, "by numbers", 5, main, doomed, joins).run(0).run(4).run(2).run(0).fiber(1, 5, 1);
        story.fiber(3, 5, 1).fiber(2, 9, 1).fiber(4, 9, 3);
        for (int k = 0; k < 11; k++) {
            story.run(0);
        }
        story.about(4, 3).about(20, 1).about(21, 3).about(22, 0).fiber(1, 0, 0);
        runAsFirst(story, 3).fiber(1, 1, 3).fiber(3, 1, 3).about(4, 3).about(20, 2).about(21, 4).about(22, 0);
    }

    /** The row is main alone when it is chosen among three: main, and the two that became ready. */
    private static Story runAsFirst(Story story, int many) {
        int seed = 0;
        while ((seed * 1103515245 + 12345 >>> 16) % many != 0) {
            seed++;
        }
        return story.turns(1, 1, seed);
    }

    /** "KILL of one that .. was KILLED: nothing": the turns are counted from the first time. */
    private static void killAgainChangesNothing() {
        Code main = code(0).op(Code.SELF).with(Code.SPAWN, 1).op(Code.YIELD, Code.COPY, Code.KILL).with(Code.JUMP, 2);
        Story story = new Story(checks, "KILL again", 5, main, given().op(Code.YIELD, Code.RETURN)).run(0).run(0);
        for (int ago = 1; ago <= 11; ago++) {
            story.run(0).fiber(1, 0, 0).fiber(1, 5, 1);
        }
        story.turns(1, 1).fiber(1, 1, 3).fiber(1, 2, -9);
    }

    /** "- 1 of NONE", "- 3 .. KILL .. of no fiber". */
    private static void ofNoneOrNoFiber() {
        new Story(checks, "of NONE", 5, code(0).op(Code.NONE, Code.KILL, Code.RETURN)).turns(1, 1).fiber(0, 2, -1);
        new Story(checks, "of no fiber", 5, code(0).op(Code.NEW, Code.KILL, Code.RETURN)).turns(1, 1).fiber(0, 2, -3);
    }

    /** "KILL of one that has ENDED ..: nothing". */
    private static void ofOneThatEnded() {
        Story story = new Story(checks, "ENDED", 5, killer(), given().op(Code.RETURN)).run(0).run(1).fiber(1, 0, 5).run(0);
        story.fiber(1, 5, 0).fiber(1, 1, 1).about(4, 1).fiber(0, 0, 0).turns(14, 14).fiber(1, 1, 1).fiber(1, 5, 0);
    }

    /** One that is READY stays where it is in the row, and isn't there twice. */
    private static void ofOneReady() {
        Code main = code(0).op(Code.SELF).with(Code.SPAWN, 1).op(Code.COPY, Code.KILL, Code.YIELD, Code.RETURN);
        Story story = new Story(checks, "READY", 5, main, given().op(Code.YIELD, Code.RETURN)).run(0).about(4, 2).about(20, 1);
        story.about(21, 0).fiber(1, 5, 1).fiber(1, 0, 0).run(1).fiber(1, 1, 2).fiber(1, 2, -9).fiber(1, 3, 1).about(4, 1);
    }

    /** "A POINT: if it is PASSING: .. goes on. Else, if it is KILLED": it passes one more, and dies at the next. */
    private static void ofOnePassing() {
        Code worker = given().op(Code.YIELD).out(1).op(Code.YIELD).out(2).op(Code.RETURN);
        Story story = new Story(checks, "PASSING at a POINT", 5, killer(), worker).run(0).run(1).fiber(1, 6, 1).run(0);
        story.fiber(1, 5, 1).fiber(1, 6, 1).run(1).output(1).fiber(1, 1, 2).fiber(1, 2, -9).fiber(1, 3, 4).fiber(1, 6, 0);
        Code loops = given().out(1).with(Code.JUMP, 0);
        Story spends = new Story(checks, "PASSING at a SPEND", 1, killer(), loops).run(0).run(1).about(3, 2).fiber(1, 6, 1).run(0);
        spends.fiber(1, 5, 1).run(1).about(3, 3).fiber(1, 2, -9).fiber(1, 3, 8);
    }

    /** One that KILLs itself goes on till its next SPEND or POINT. */
    private static void ofItself() {
        Code main = code(0).op(Code.SELF, Code.KILL).out(1).push(0).op(Code.SLEEP).out(2).op(Code.RETURN);
        new Story(checks, "itself", 5, main).turns(1, 1).output(1).fiber(0, 1, 2).fiber(0, 2, -9).fiber(0, 3, 6);
        Code ends = code(0).op(Code.SELF, Code.KILL).out(1).op(Code.RETURN);
        new Story(checks, "and ends without one", 5, ends).turns(1, 1).output(1).fiber(0, 1, 1).fiber(0, 2, 0).fiber(0, 5, 1);
    }

    /** One that is new begins, and dies at its first SPEND or POINT. */
    private static void ofOneNew() {
        Story story = new Story(checks, "new", 5, killer(), given().out(1).op(Code.YIELD).out(2).op(Code.RETURN)).run(0).run(0);
        story.fiber(1, 5, 1).fiber(1, 4, 1).fiber(1, 3, 0).run(1).output(1).fiber(1, 2, -9).fiber(1, 3, 3);
    }

    /** "one SLEEPING or JOINING BECOMES READY", not PASSING: DEATH is RAISED where it stands. */
    private static void ofOneSleeping() {
        Code worker = given().push(30).op(Code.SLEEP, Code.RETURN, Code.OUT, Code.RETURN).handler(1, 2, 3);
        Story story = new Story(checks, "SLEEPING", 5, killer(), worker).run(0).run(1).fiber(1, 8, 30).run(0).fiber(1, 0, 0);
        story.fiber(1, 6, 0).fiber(1, 8, 0).about(4, 2).about(20, 1).about(21, 0).run(1).output(-9).fiber(1, 1, 1).fiber(1, 3, 4);
    }

    private static void ofOneJoining() {
        Code worker = given().with(Code.LOAD, 0).op(Code.JOIN, Code.RETURN, Code.OUT, Code.RETURN).handler(1, 2, 3);
        Story story = new Story(checks, "JOINING", 5, killer(), worker).run(0).run(1).fiber(1, 9, 0).run(0).fiber(1, 0, 0);
        story.fiber(1, 6, 0).fiber(1, 9, -1).about(4, 2).about(20, 1).run(1).output(-9).fiber(1, 1, 1).fiber(1, 3, 4);
    }

    /** "one LOCKING that came to the QUEUE by LOCK leaves it, and BECOMES READY": those behind it move up. */
    private static void ofOneLockingByLock() {
        Code main = code(1).op(Code.SELF, Code.LOCK, Code.SELF).with(Code.SPAWN, 1).with(Code.STORE, 0).op(Code.SELF)
            .with(Code.SPAWN, 1).op(Code.DROP, Code.YIELD).with(Code.LOAD, 0).op(Code.KILL, Code.YIELD, Code.RETURN);
        Code worker = locked(given()).out(4).op(Code.RETURN);
        Story story = new Story(checks, "LOCKING", 5, main, worker).run(0).run(1).run(2).object(1, 10, 2).object(1, 20, 1).run(0);
        story.object(1, 10, 1).object(1, 20, 2).object(1, 8, 0).fiber(1, 0, 0).fiber(1, 6, 0).fiber(1, 9, -1).fiber(2, 0, 1);
        story.run(1).fiber(1, 2, -9).fiber(1, 3, 2).output().run(0).object(1, 8, 2).run(2).output(4);
    }

    /** One that had waited for a lock, and comes to a QUEUE by LOCK later, leaves it too. */
    private static void ofOneLockingBehindAWait() {
        Code main = code(1).op(Code.SELF).with(Code.SPAWN, 1).with(Code.STORE, 0).op(Code.YIELD, Code.SELF, Code.LOCK, Code.SELF)
            .with(Code.WAKE, 0).op(Code.SELF, Code.FREE, Code.YIELD, Code.SELF, Code.LOCK, Code.YIELD).with(Code.LOAD, 0)
            .op(Code.KILL, Code.YIELD, Code.RETURN);
        Code worker = locked(given()).with(Code.LOAD, 0).op(Code.WAIT).with(Code.LOAD, 0).op(Code.FREE, Code.YIELD);
        locked(worker).out(4).op(Code.RETURN);
        Story story = new Story(checks, "LOCKING behind a WAIT", 5, main, worker).run(0).run(1).fiber(1, 0, 2).run(0).run(1).run(0);
        story.run(1).fiber(1, 0, 1).object(1, 10, 1).run(0).fiber(1, 5, 1).fiber(1, 0, 0).fiber(1, 6, 0).object(1, 10, 0);
        story.run(1).output().fiber(1, 2, -9).object(1, 8, 0);
    }

    /** One that was woken stays in the QUEUE, and is PASSING when it has the lock: it dies at its next POINT. */
    private static void ofOneLockingByWake() {
        Code main = code(1).op(Code.SELF).with(Code.SPAWN, 1).with(Code.STORE, 0).op(Code.YIELD, Code.SELF, Code.LOCK, Code.SELF)
            .with(Code.WAKE, 0).with(Code.LOAD, 0).op(Code.KILL, Code.YIELD, Code.SELF, Code.FREE, Code.YIELD, Code.RETURN);
        Code worker = locked(locked(given())).with(Code.LOAD, 0).op(Code.WAIT).out(4).op(Code.YIELD, Code.RETURN);
        Story story = new Story(checks, "woken", 5, main, worker).run(0).run(1).run(0).fiber(1, 5, 1).fiber(1, 0, 1).fiber(1, 9, 1);
        story.object(1, 10, 1).object(1, 8, 0).about(4, 1).run(0).fiber(1, 0, 0).fiber(1, 6, 1).object(1, 8, 1).object(1, 9, 2);
        story.run(1).output(4).fiber(1, 1, 2).fiber(1, 2, -9).object(1, 8, -1);
    }

    /** "one WAITING comes to the QUEUE's end, LOCKING", and isn't PASSING when it has the lock. */
    private static void ofOneWaiting() {
        Code main = code(1).op(Code.SELF).with(Code.SPAWN, 1).with(Code.STORE, 0).op(Code.YIELD, Code.SELF, Code.LOCK, Code.SELF)
            .with(Code.SPAWN, 2).op(Code.DROP, Code.YIELD).with(Code.LOAD, 0).op(Code.KILL, Code.YIELD, Code.SELF, Code.FREE)
            .op(Code.YIELD, Code.RETURN);
        Code waiter = locked(locked(given())).with(Code.LOAD, 0).op(Code.WAIT, Code.RETURN, Code.OUT).with(Code.LOAD, 0)
            .op(Code.FREE).with(Code.LOAD, 0).op(Code.FREE, Code.RETURN).handler(5, 6, 7);
        Code locker = locked(given()).with(Code.LOAD, 0).op(Code.FREE, Code.RETURN);
        Story story = new Story(checks, "WAITING", 5, main, waiter, locker).run(0).run(1).fiber(1, 0, 2).run(0).run(2).run(0);
        story.fiber(1, 0, 1).fiber(1, 5, 1).fiber(1, 9, 1).object(1, 11, 0).object(1, 10, 2).object(1, 20, 2).object(1, 21, 1);
        story.run(0).object(1, 8, 2).run(2).object(1, 8, 1).object(1, 9, 2).fiber(1, 0, 0).fiber(1, 6, 0).output();
        story.run(1).output(-9).fiber(1, 1, 1).object(1, 8, -1).object(1, 9, 0);
    }

    /** "and, if the lock has no owner, that is HANDED ON": it has it at once, with its COUNT. */
    private static void ofOneWaitingWithNoOwner() {
        Code waiter = locked(locked(given())).with(Code.LOAD, 0).op(Code.WAIT, Code.RETURN);
        Story story = new Story(checks, "no owner", 5, killer(), waiter).run(0).run(1).object(1, 8, -1).object(1, 11, 1).run(0);
        story.object(1, 8, 1).object(1, 9, 2).object(1, 10, 0).object(1, 11, 0).fiber(1, 0, 0).fiber(1, 6, 0).fiber(1, 9, -1);
        story.about(4, 2).about(20, 1).run(1).fiber(1, 2, -9).fiber(1, 3, 6).object(1, 8, -1);
    }

    /** One to whom a lock was HANDED ON is READY and PASSING: a KILL doesn't change that. */
    private static void ofOneReadyWithALock() {
        Code main = code(0).op(Code.SELF, Code.LOCK, Code.SELF).with(Code.SPAWN, 1).op(Code.YIELD, Code.SELF, Code.FREE)
            .op(Code.KILL, Code.YIELD, Code.RETURN);
        Code worker = locked(given()).out(3).op(Code.YIELD, Code.RETURN);
        Story story = new Story(checks, "HANDED ON and KILLED", 5, main, worker).run(0).run(1).fiber(1, 0, 1).run(0);
        story.fiber(1, 5, 1).fiber(1, 6, 1).object(1, 8, 1).run(1).output(3).fiber(1, 2, -9).object(1, 8, -1);
    }

    /** DEATH comes ahead of all else that a POINT may do, also of what it would raise. */
    private static void deathAtEachPoint() {
        Code[] points = {code(0).op(Code.SELF, Code.KILL, Code.YIELD, Code.RETURN), code(0).op(Code.SELF, Code.KILL).push(0)
            .op(Code.SLEEP, Code.RETURN), code(0).op(Code.SELF, Code.KILL, Code.NONE, Code.JOIN, Code.RETURN),
            code(0).op(Code.SELF, Code.KILL, Code.NONE, Code.LOCK, Code.RETURN),
            code(0).op(Code.SELF, Code.KILL, Code.NEW, Code.LOCK, Code.RETURN),
            code(0).op(Code.SELF, Code.KILL, Code.NEW, Code.WAIT, Code.RETURN),
            code(0).op(Code.SELF, Code.KILL, Code.NEW, Code.JOIN, Code.RETURN)};
        for (int k = 0; k < points.length; k++) {
            new Story(checks, "DEATH at " + k, 5, points[k]).turns(1, 1).fiber(0, 1, 2).fiber(0, 2, -9).fiber(0, 3, k == 0 ? 3 : 4);
        }
        Code handled = code(0).op(Code.SELF, Code.KILL, Code.YIELD, Code.RETURN, Code.OUT, Code.YIELD, Code.RETURN, Code.OUT)
            .op(Code.RETURN).handler(2, 3, 4).handler(5, 6, 7);
        new Story(checks, "DEATH is RAISED again and again", 5, handled).turns(1, 1).output(-9, -9).fiber(0, 1, 1).fiber(0, 3, 7);
    }

    /** "RETURNED (1) ..: its OUTCOME is that one's result, if that is an N, else 0". */
    private static void endsReturned() {
        for (int number : new int[] {Integer.MIN_VALUE, -9, -1, 0, 1, Integer.MAX_VALUE}) {
            new Story(checks, "RETURN of " + number, 5, new Code(0, 0, 1, 0).push(number).op(Code.RETURN)).fiber(0, 2, 0)
                .turns(1, 1).fiber(0, 0, 5).fiber(0, 1, 1).fiber(0, 2, number);
        }
        new Story(checks, "an R", 5, new Code(0, 0, 2, 0).op(Code.SELF, Code.RETURN)).turns(1, 1).fiber(0, 1, 1).fiber(0, 2, 0);
        new Story(checks, "none", 5, code(0).push(7).op(Code.RETURN)).turns(1, 1).fiber(0, 1, 1).fiber(0, 2, 0);
        new Story(checks, "not from a CALL", 5, code(0).with(Code.CALL, 1).op(Code.DROP, Code.YIELD, Code.RETURN),
            new Code(0, 0, 1, 0).push(7).op(Code.RETURN)).turns(1, 1).fiber(0, 1, 0).fiber(0, 2, 0).turns(1, 1).fiber(0, 2, 0);
    }

    /** "RAISED (2): that number". */
    private static void endsRaised() {
        for (int number : new int[] {Integer.MIN_VALUE, -9, -1, 0, 1, Integer.MAX_VALUE}) {
            new Story(checks, "RAISE of " + number, 5, code(0).push(number).op(Code.RAISE)).turns(1, 1).fiber(0, 0, 5)
                .fiber(0, 1, 2).fiber(0, 2, number).fiber(0, 4, 0);
            Code below = code(0).push(5).with(Code.CALL, 1).op(Code.RETURN);
            new Story(checks, "from two frames, " + number, 5, below, code(0).push(number).op(Code.RAISE)).turns(1, 1)
                .fiber(0, 1, 2).fiber(0, 2, number).fiber(0, 4, 0);
            Code caught = code(0).push(number).op(Code.RAISE, Code.OUT, Code.RETURN).handler(1, 2, 2);
            new Story(checks, "caught, " + number, 5, caught).turns(1, 1).fiber(0, 1, 1).output(number);
        }
    }

    /** "locks that it owns are HANDED ON, by numbers of objects", however often it had locked them. */
    private static void endsAndLetsGo() {
        Code main = code(2).op(Code.NEW).with(Code.STORE, 0).op(Code.NEW).with(Code.STORE, 1);
        main.with(Code.LOAD, 1).op(Code.LOCK).with(Code.LOAD, 1).op(Code.LOCK).with(Code.LOAD, 0).op(Code.LOCK);
        main.with(Code.LOAD, 1).with(Code.SPAWN, 1).op(Code.DROP).with(Code.LOAD, 0).with(Code.SPAWN, 1).op(Code.DROP);
        main.op(Code.YIELD, Code.RETURN);
        Story story = new Story(checks, "two locks", 5, main, locked(given()).op(Code.YIELD, Code.RETURN)).run(0).run(1).run(2);
        story.object(2, 20, 2).object(3, 20, 1).object(3, 9, 2).run(0).fiber(0, 0, 5).object(2, 8, 2).object(3, 8, 1);
        story.object(2, 9, 1).object(3, 9, 1).about(4, 2).about(20, 2).about(21, 1).fiber(1, 6, 1).fiber(2, 6, 1);
    }

    /** An ABANDONED one leaves the QUEUE, or the row, and its locks and those JOINING it are let go. */
    private static void abandonedLetsGo() {
        Code main = code(1).op(Code.SELF).with(Code.SPAWN, 1).with(Code.STORE, 0).op(Code.YIELD, Code.SELF, Code.LOCK)
            .with(Code.LOAD, 0).op(Code.KILL).with(Code.LOAD, 0).op(Code.JOIN, Code.OUT, Code.RETURN);
        Code worker = given().op(Code.SELF, Code.LOCK).with(Code.LOAD, 0).op(Code.LOCK).with(Code.LOAD, 0).op(Code.WAIT, Code.RETURN);
        Story story = new Story(checks, "in a QUEUE", 5, main, worker).run(0).run(1).run(0).fiber(1, 0, 1).fiber(0, 9, 1);
        story.object(2, 8, 1).turns(11, 0).fiber(1, 0, 1).object(1, 20, 1).turns(1, 1).fiber(1, 1, 3).object(1, 10, 0);
        story.object(2, 8, -1).object(2, 9, 0).output(-9).fiber(0, 1, 1);
        checks.due("nothing is packed any more", story.loom.packed(1, 0, -1) + story.loom.packed(1, 1, -1)
            + story.loom.packed(1, 2, -1), 0);
    }
}
