/** PART 3, JOIN, LOCK, WAIT, FREE, WAKE and HANDED ON: none, one, and more; the owner, and others. */
public final class EdgesOfLocksTest {
    private static final Checks checks = new Checks();

    public static void main(String[] args) {
        joinOfAnEndedOne();
        joinedByNumbers();
        lockWithNoOwnerOrItself();
        lockComesToTheEnd();
        freeTheOwnerAlone();
        freeAtZero();
        waitTheOwnerAlone();
        waitWithItsCount();
        countOfAnotherLock();
        waitHandsOn();
        wakeTheOwnerAlone();
        wakeNoneOneAll();
        handedOnToNoOne();
        handedOnInOrder();
        fullQueue();
        fullWaiters();
        rings();
        checks.finish();
    }

    private static Code code(int slots) {
        return new Code(0, 0, 0, slots);
    }

    /** A method that is given main's object. */
    private static Code given() {
        return new Code(1, 1, 0, 1);
    }

    private static Code lock(Code code) {
        return code.with(Code.LOAD, 0).op(Code.LOCK);
    }

    private static Code waits(Code code) {
        return code.with(Code.LOAD, 0).op(Code.WAIT);
    }

    private static Code frees(Code code) {
        return code.with(Code.LOAD, 0).op(Code.FREE);
    }

    /** Main spawns some with its object. */
    private static Code spawns(Code main, int... methods) {
        for (int m : methods) {
            main.op(Code.SELF).with(Code.SPAWN, m).op(Code.DROP);
        }
        return main;
    }

    /** "JOIN: of an ENDED one: it goes on; else it is JOINING, and stops": just ENDED, and not yet. */
    private static void joinOfAnEndedOne() {
        Code main = code(0).with(Code.SPAWN, 1).op(Code.YIELD, Code.JOIN, Code.OUT, Code.RETURN);
        Code gives = new Code(0, 0, 1, 0).op(Code.YIELD).push(6).op(Code.RETURN);
        Story ended = new Story(checks, "of one that ENDED", 5, main, gives).run(0).run(1).run(1).fiber(1, 0, 5);
        ended.run(0).output(6).fiber(0, 0, 5).fiber(0, 3, 5);
        Story not = new Story(checks, "of one that didn't", 5, main, gives).run(0).run(1).run(0).fiber(0, 0, 4).fiber(0, 9, 1);
        not.fiber(0, 3, 2).fiber(0, 6, 0).about(4, 1).run(1).fiber(0, 0, 0).fiber(0, 6, 1).fiber(0, 9, -1).output();
        not.run(0).output(6).fiber(0, 3, 5);
        new Story(checks, "of NONE", 5, code(0).op(Code.NONE, Code.JOIN, Code.RETURN)).turns(1, 1).fiber(0, 2, -1);
        new Story(checks, "of no fiber", 5, code(0).op(Code.NEW, Code.JOIN, Code.RETURN)).turns(1, 1).fiber(0, 2, -3);
        new Story(checks, "of itself", 5, code(0).op(Code.SELF, Code.JOIN, Code.RETURN)).turns(1, 1).fiber(0, 0, 4)
            .fiber(0, 9, 0).about(8, 1).turns(50, 0).fiber(0, 0, 4);
    }

    /** "those JOINING it BECOME READY, PASSING, by numbers", in whatever order they came; others stay. */
    private static void joinedByNumbers() {
        Code main = spawns(code(0), 1, 1, 1).op(Code.YIELD).with(Code.SPAWN, 2).op(Code.DROP, Code.YIELD).push(8).op(Code.RAISE);
        Code joins = given().with(Code.LOAD, 0).op(Code.JOIN, Code.OUT, Code.RETURN);
        Code own = code(0).op(Code.SELF, Code.JOIN, Code.OUT, Code.RETURN);
        Story story = new Story(checks, "by numbers", 5, main, joins, own).run(0).run(3).run(1).run(2).run(0).run(4);
        story.fiber(4, 0, 4).about(4, 1).run(0).fiber(0, 2, 8).about(4, 3).about(20, 1).about(21, 2).about(22, 3);
        story.fiber(4, 0, 4).fiber(4, 9, 4).turns(3, 3).output(8, 8, 8).turns(1, 0);
    }

    /** "LOCK: with no owner, or itself: it is the owner, COUNT 1 more, and goes on". */
    private static void lockWithNoOwnerOrItself() {
        Story story = new Story(checks, "LOCK", 5, code(0).op(Code.SELF, Code.LOCK, Code.YIELD, Code.SELF, Code.LOCK,
            Code.SELF, Code.LOCK, Code.YIELD, Code.RETURN)).object(1, 8, -1).object(1, 9, 0);
        story.turns(1, 1).object(1, 8, 0).object(1, 9, 1).turns(1, 1).object(1, 8, 0).object(1, 9, 3).object(1, 10, 0);
        story.turns(1, 1).fiber(0, 0, 5).object(1, 8, -1).object(1, 9, 0);
    }

    /** "else it comes to the QUEUE's end, is LOCKING, and stops". */
    private static void lockComesToTheEnd() {
        Code main = spawns(code(0).op(Code.SELF, Code.LOCK), 1, 1, 1).push(9).op(Code.SLEEP, Code.RETURN);
        Story story = new Story(checks, "the QUEUE's end", 5, main, lock(given()).op(Code.YIELD, Code.RETURN)).run(0).object(1, 10, 0);
        story.run(2).object(1, 10, 1).object(1, 20, 2).object(1, 21, 0).fiber(2, 0, 1).fiber(2, 9, 1).fiber(2, 3, 1).fiber(2, 6, 0);
        story.run(3).object(1, 10, 2).object(1, 20, 2).object(1, 21, 3).run(1).object(1, 10, 3).object(1, 22, 1).object(1, 23, 0);
        story.object(1, 8, 0).object(1, 9, 1).about(4, 0);
    }

    /** "FREE (the owner alone)": with no owner, with another one, once too often. */
    private static void freeTheOwnerAlone() {
        new Story(checks, "no owner", 5, code(0).op(Code.NEW, Code.FREE, Code.RETURN)).turns(1, 1).fiber(0, 2, -3);
        Code often = code(0).op(Code.SELF, Code.LOCK, Code.SELF, Code.FREE, Code.SELF, Code.FREE, Code.RETURN);
        new Story(checks, "once too often", 5, often).turns(1, 1).fiber(0, 2, -3).fiber(0, 3, 6).object(1, 9, 0);
        Code main = spawns(code(0).op(Code.SELF, Code.LOCK), 1).op(Code.YIELD, Code.SELF, Code.FREE, Code.RETURN);
        new Story(checks, "another one", 5, main, frees(given()).op(Code.RETURN)).run(0).run(1).fiber(1, 2, -3)
            .object(1, 8, 0).object(1, 9, 1).run(0).fiber(0, 1, 1);
    }

    /** "COUNT is 1 less; at 0 the lock is HANDED ON": at 2, 1 and 0. */
    private static void freeAtZero() {
        Code main = spawns(code(0).op(Code.SELF, Code.LOCK, Code.SELF, Code.LOCK, Code.SELF, Code.LOCK), 1).op(Code.YIELD);
        for (int k = 0; k < 3; k++) {
            main.op(Code.SELF, Code.FREE, Code.YIELD);
        }
        main.op(Code.RETURN);
        Code other = lock(given()).op(Code.YIELD, Code.RETURN);
        Story story = new Story(checks, "FREE", 5, main, other).run(0).run(1).object(1, 9, 3).object(1, 10, 1);
        story.run(0).object(1, 8, 0).object(1, 9, 2).fiber(1, 0, 1).run(0).object(1, 8, 0).object(1, 9, 1).fiber(1, 0, 1);
        story.run(0).object(1, 8, 1).object(1, 9, 1).object(1, 10, 0).fiber(1, 0, 0).fiber(1, 6, 1).fiber(1, 9, -1);
        story.about(20, 1).about(21, 0).run(1).fiber(1, 6, 1).fiber(1, 3, 2).run(1).fiber(1, 0, 5).object(1, 8, -1);
    }

    /** "WAIT (the owner alone)": with no owner, with another one, with NONE. */
    private static void waitTheOwnerAlone() {
        new Story(checks, "no owner", 5, code(0).op(Code.NEW, Code.WAIT, Code.RETURN)).turns(1, 1).fiber(0, 2, -3)
            .object(2, 11, 0);
        new Story(checks, "NONE", 5, code(0).op(Code.NONE, Code.WAIT, Code.RETURN)).turns(1, 1).fiber(0, 2, -1);
        Code main = spawns(code(0).op(Code.SELF, Code.LOCK), 1).op(Code.YIELD, Code.RETURN);
        new Story(checks, "another one", 5, main, waits(given()).op(Code.RETURN)).run(0).run(1).fiber(1, 2, -3)
            .object(1, 8, 0).object(1, 11, 0);
    }

    /** "comes to the WAITERS' end with its COUNT", which it has again later: 1, 2 and 3. */
    private static void waitWithItsCount() {
        for (int count = 1; count <= 3; count++) {
            Code worker = given();
            for (int k = 0; k < count; k++) {
                lock(worker);
            }
            waits(worker).op(Code.YIELD, Code.RETURN);
            Code main = spawns(code(0), 1).op(Code.YIELD, Code.SELF, Code.LOCK, Code.SELF).with(Code.WAKE, 0)
                .op(Code.SELF, Code.FREE, Code.YIELD, Code.RETURN);
            Story story = new Story(checks, "COUNT " + count, 5, main, worker).run(0).run(1).fiber(1, 0, 2).fiber(1, 9, 1);
            story.object(1, 8, -1).object(1, 9, 0).object(1, 11, 1).object(1, 50, 1).object(1, 51, 0).object(1, 10, 0);
            story.run(0).object(1, 8, 1).object(1, 9, count).object(1, 11, 0).object(1, 10, 0).fiber(1, 0, 0).fiber(1, 6, 1);
            story.run(1).object(1, 8, 1).object(1, 9, count).fiber(1, 3, 2 * count + 2);
        }
    }

    /** "COUNT is 1, or that with which it came to the WAITERS": one that had waited comes by LOCK later, with 1. */
    private static void countOfAnotherLock() {
        Code main = spawns(code(0), 1).op(Code.YIELD, Code.SELF, Code.LOCK, Code.SELF).with(Code.WAKE, 0)
            .op(Code.SELF, Code.FREE, Code.YIELD, Code.SELF, Code.LOCK, Code.YIELD, Code.SELF, Code.FREE, Code.YIELD, Code.RETURN);
        Code worker = frees(frees(waits(lock(lock(given()))))).op(Code.YIELD);
        lock(worker).op(Code.YIELD, Code.RETURN);
        Story story = new Story(checks, "LOCK behind a WAIT", 5, main, worker).run(0).run(1).run(0).object(1, 9, 2).run(1);
        story.object(1, 8, -1).run(0).object(1, 8, 0).run(1).fiber(1, 0, 1).object(1, 20, 1).run(0).object(1, 8, 1).object(1, 9, 1);
        story.run(1).object(1, 9, 1);
    }

    /** "the lock is HANDED ON": to the first of the QUEUE, with COUNT 1, or to no one. */
    private static void waitHandsOn() {
        Code main = spawns(code(0).op(Code.SELF, Code.LOCK, Code.SELF, Code.LOCK), 1, 1).op(Code.YIELD, Code.SELF, Code.WAIT, Code.RETURN);
        Code other = lock(given()).op(Code.YIELD, Code.RETURN);
        Story story = new Story(checks, "WAIT", 5, main, other).run(0).run(2).run(1).run(0).fiber(0, 0, 2).object(1, 8, 2);
        story.object(1, 9, 1).object(1, 10, 1).object(1, 20, 1).object(1, 50, 0).object(1, 11, 1).fiber(2, 6, 1);
        story.run(2).run(2).object(1, 8, 1).run(1).run(1).object(1, 8, -1).object(1, 9, 0).object(1, 11, 1).turns(2, 0);
    }

    /** "WAKE (the owner alone)", of one and of all. */
    private static void wakeTheOwnerAlone() {
        for (int all = 0; all < 2; all++) {
            new Story(checks, "no owner", 5, code(0).op(Code.NEW).with(Code.WAKE, all).op(Code.RETURN)).turns(1, 1).fiber(0, 2, -3);
            new Story(checks, "NONE", 5, code(0).op(Code.NONE).with(Code.WAKE, all).op(Code.RETURN)).turns(1, 1).fiber(0, 2, -1);
            Code main = spawns(code(0).op(Code.SELF, Code.LOCK), 1).op(Code.YIELD, Code.RETURN);
            Code other = given().with(Code.LOAD, 0).with(Code.WAKE, all).op(Code.RETURN);
            new Story(checks, "another one", 5, main, other).run(0).run(1).fiber(1, 2, -3);
        }
    }

    /** "the first of the WAITERS, or all, in their order, come to the QUEUE's end": 0 to 3 of them. */
    private static void wakeNoneOneAll() {
        for (int all = 0; all < 2; all++) {
            for (int many = 0; many <= 3; many++) {
                int[] methods = new int[many];
                java.util.Arrays.fill(methods, 1);
                Code main = spawns(code(0), methods).op(Code.YIELD, Code.SELF, Code.LOCK);
                spawns(main, 2).op(Code.YIELD, Code.SELF).with(Code.WAKE, all).op(Code.YIELD, Code.RETURN);
                Code waiter = waits(lock(given())).op(Code.RETURN);
                Code locker = lock(given()).op(Code.RETURN);
                Story story = new Story(checks, "WAKE " + all + " of " + many, 5, main, waiter, locker).run(0);
                for (int f = many; f >= 1; f--) {
                    story.run(f);
                }
                story.object(1, 11, many).object(1, 8, -1).run(0).run(many + 1).object(1, 10, 1).object(1, 20, many + 1).run(0);
                int woken = all == 1 ? many : Math.min(many, 1);
                story.object(1, 10, 1 + woken).object(1, 11, many - woken).object(1, 20, many + 1).fiber(0, 0, 0).fiber(0, 3, 9 + 3 * many);
                for (int k = 0; k < many; k++) {
                    story.fiber(many - k, 0, k < woken ? 1 : 2).fiber(many - k, 9, 1).fiber(many - k, 6, 0);
                    story.object(1, k < woken ? 21 + k : 50 + k - woken, many - k);
                }
                story.object(1, 21 + woken, 0).object(1, 50 + many - woken, 0);
            }
        }
    }

    /** "it has no owner, COUNT 0", if the QUEUE is empty, though there are WAITERS. */
    private static void handedOnToNoOne() {
        Code main = spawns(code(0), 1).op(Code.YIELD, Code.SELF, Code.LOCK, Code.SELF, Code.FREE, Code.YIELD, Code.RETURN);
        Story story = new Story(checks, "to no one", 5, main, waits(lock(given())).op(Code.RETURN)).run(0).run(1).run(0);
        story.object(1, 8, -1).object(1, 9, 0).object(1, 10, 0).object(1, 11, 1).fiber(1, 0, 2);
    }

    /** "the first one in the QUEUE leaves it and is the owner", one after the other. */
    private static void handedOnInOrder() {
        Code main = spawns(code(0).op(Code.SELF, Code.LOCK), 1, 1, 1).op(Code.YIELD, Code.SELF, Code.FREE, Code.RETURN);
        Code other = frees(lock(given())).op(Code.RETURN);
        Story story = new Story(checks, "in order", 5, main, other).run(0).run(3).run(1).run(2).run(0);
        int[] order = {3, 1, 2};
        for (int k = 0; k < 3; k++) {
            story.object(1, 8, order[k]).object(1, 9, 1).object(1, 10, 2 - k).object(1, 20, k < 2 ? order[k + 1] : 0);
            story.about(4, 1).run(order[k]).fiber(order[k], 0, 5);
        }
        story.object(1, 8, -1).object(1, 9, 0);
    }

    private static int[] ones(int many) {
        int[] all = new int[many];
        java.util.Arrays.fill(all, 1);
        return all;
    }

    /** As many in a QUEUE as there can be: 23, while one owns the lock. */
    private static void fullQueue() {
        Code main = code(0).op(Code.SELF, Code.LOCK).with(Code.CALL, 2).op(Code.YIELD, Code.RETURN);
        Code all = spawns(code(0), ones(23)).op(Code.RETURN);
        Story story = new Story(checks, "23 in the QUEUE", 5, main, frees(lock(given())).op(Code.RETURN), all).run(0).about(4, 24);
        for (int f = 23; f >= 1; f--) {
            story.run(f).object(1, 10, 24 - f).object(1, 20 + 23 - f, f).object(1, 20 + 24 - f, 0);
        }
        story.object(1, 10, 23).object(1, 42, 1).object(1, 43, 0).object(1, 49, 0).object(1, 19, 0).run(0).fiber(0, 0, 5);
        for (int f = 23; f >= 1; f--) {
            story.object(1, 8, f).run(f);
        }
        story.object(1, 8, -1).object(1, 10, 0).turns(1, 0);
    }

    /** All 24 fibers are WAITERS of one lock. */
    private static void fullWaiters() {
        Code main = spawns(code(0), ones(23)).op(Code.SELF, Code.LOCK, Code.SELF, Code.WAIT, Code.RETURN);
        Story story = new Story(checks, "24 WAITERS", 5, main, waits(lock(given())).op(Code.RETURN)).run(0);
        story.object(1, 11, 1).object(1, 50, 0);
        for (int f = 1; f <= 23; f++) {
            story.run(f).object(1, 11, f + 1).object(1, 50 + f, f).object(1, 51 + f, 0);
        }
        story.object(1, 8, -1).object(1, 9, 0).object(1, 49, 0).about(4, 0).about(8, 0).turns(50, 0);
    }

    /** "fibers on a RING .. who comes back to itself": of 1, 2, 3 and 24, and those who only lead there. */
    private static void rings() {
        for (int many : new int[] {2, 3, 23, 24}) {
            Code main = code(0).op(Code.SELF).push(many - 2).with(Code.SPAWN, 1).op(Code.JOIN, Code.RETURN);
            Code link = new Code(2, 1, 0, 2).with(Code.LOAD, 1).with(Code.JZERO, 9).with(Code.LOAD, 0).with(Code.LOAD, 1)
                .push(1).op(Code.SUB).with(Code.SPAWN, 1).op(Code.JOIN, Code.RETURN).with(Code.LOAD, 0).op(Code.JOIN, Code.RETURN);
            Story story = new Story(checks, "a RING of " + many, 5, main, link).run(0).about(8, 0);
            for (int f = 1; f < many - 1; f++) {
                story.run(f).about(8, 0).fiber(f, 9, f + 1);
            }
            story.run(many - 1).fiber(many - 1, 9, 0).about(8, many).about(1, many);
        }
        Code leads = spawns(code(0), 1, 2).op(Code.SELF, Code.JOIN, Code.RETURN);
        Code joins = given().with(Code.LOAD, 0).op(Code.JOIN, Code.RETURN);
        Code second = given().op(Code.SELF).with(Code.SPAWN, 1).op(Code.DROP, Code.YIELD, Code.RETURN);
        new Story(checks, "who leads to a RING isn't on it", 5, leads, joins, second).run(0).about(8, 1).run(1).about(8, 1)
            .fiber(1, 0, 4);
        Code holds = spawns(code(0).op(Code.SELF, Code.LOCK), 1).op(Code.YIELD).with(Code.SPAWN, 2).op(Code.JOIN, Code.RETURN);
        new Story(checks, "one LOCKING leads to the owner", 5, holds, lock(given()).op(Code.RETURN),
            code(0).op(Code.YIELD, Code.RETURN)).run(0).run(1).about(8, 0).run(0).about(8, 0).fiber(0, 0, 4);
        Code mixed = code(0).op(Code.SELF, Code.LOCK, Code.SELF).with(Code.SPAWN, 1).op(Code.JOIN, Code.RETURN);
        new Story(checks, "LOCKING and JOINING", 5, mixed, lock(given()).op(Code.RETURN)).run(0).about(8, 0).run(1).about(8, 2);
        Code waiting = spawns(code(0), 1).op(Code.SELF, Code.LOCK, Code.SELF, Code.WAIT, Code.RETURN);
        new Story(checks, "one WAITING leads nowhere", 5, waiting, lock(given()).with(Code.LOAD, 0).op(Code.JOIN, Code.RETURN))
            .run(0).run(1).fiber(0, 0, 2).fiber(1, 0, 4).about(8, 0);
    }
}
