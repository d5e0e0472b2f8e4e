/** PART 3, TURNS, QUANTUMS, SLEEP and STEPS: at each limit and one step to either side. */
public final class EdgesOfTurnsTest {
    private static final Checks checks = new Checks();

    public static void main(String[] args) {
        timeIsOneMore();
        sleepBelowOne();
        sleepSoManyTurns();
        sleepThousandAtMost();
        wakeByNumbers();
        wakeAheadOfAbandoned();
        emptyRowKeepsTheSeed();
        placesOfTheRow();
        seedsThatWrap();
        quantumIsSpent();
        passingSpendsNothing();
        quantumIsNew();
        pointsAreStepsWhenTheyGoOn();
        raisesAreSteps();
        deathAtASpendIsNoStep();
        mostStepsOfOneRun();
        rowsAsTheyAreBegun();
        checks.finish();
    }

    private static Code code() {
        return new Code(0, 0, 0, 0);
    }

    /** "TIME is 1 more": in each turn, whether one runs or not; n from 1 to 50. */
    private static void timeIsOneMore() {
        Story story = new Story(checks, "TIME", 5, code().op(Code.YIELD, Code.RETURN)).about(0, 0);
        story.turns(1, 1).about(0, 1).turns(1, 1).about(0, 2).turns(1, 0).about(0, 3).turns(50, 0).about(0, 53);
        new Story(checks, "49 turns", 5, code().op(Code.YIELD).with(Code.JUMP, 0)).turns(49, 49).about(0, 49);
        new Story(checks, "50 turns", 5, code().op(Code.YIELD).with(Code.JUMP, 0)).turns(50, 50).about(0, 50);
    }

    /** "SLEEP: below 1: it goes on; else it is SLEEPING". */
    private static void sleepBelowOne() {
        for (int n : new int[] {Integer.MIN_VALUE, -1000, -1, 0}) {
            new Story(checks, "SLEEP " + n, 5, code().push(n).op(Code.SLEEP).out(3).op(Code.RETURN)).turns(1, 1)
                .output(3).fiber(0, 0, 5).fiber(0, 3, 5).fiber(0, 8, 0);
        }
        for (int n : new int[] {1, 2}) {
            new Story(checks, "SLEEP " + n, 5, code().push(n).op(Code.SLEEP).out(3).op(Code.RETURN)).turns(1, 1)
                .output().fiber(0, 0, 3).fiber(0, 3, 1).fiber(0, 8, n).fiber(0, 6, 0).about(4, 0);
        }
    }

    /** ".. SLEEPING for so many turns": one turn too early it sleeps still, then it is PASSING and runs. */
    private static void sleepSoManyTurns() {
        for (int n = 1; n <= 5; n++) {
            Story story = new Story(checks, "SLEEP " + n, 5, code().push(n).op(Code.SLEEP).out(3).op(Code.RETURN)).turns(1, 1);
            for (int left = n; left > 1; left--) {
                story.fiber(0, 8, left).turns(1, 0).fiber(0, 0, 3).output();
            }
            story.fiber(0, 8, 1).turns(1, 1).fiber(0, 8, 0).fiber(0, 0, 5).output(3).about(0, n + 1);
        }
        Code main = code().with(Code.SPAWN, 1).op(Code.DROP, Code.YIELD).with(Code.JUMP, 2);
        Code sleeper = code().push(2).op(Code.SLEEP).out(3).op(Code.RETURN);
        Story story = new Story(checks, "one that wakes is PASSING", 5, main, sleeper).run(0).run(1).fiber(1, 8, 2).run(0)
            .fiber(1, 8, 1).fiber(1, 0, 3).fiber(1, 6, 0);
        story.run(0).fiber(1, 0, 0).fiber(1, 6, 1).fiber(1, 8, 0).about(4, 2).about(20, 1).about(21, 0).run(1).output(3);
    }

    /** "(1000 at most)": 999, 1000, 1001 and the largest of all. */
    private static void sleepThousandAtMost() {
        for (int n : new int[] {999, 1000, 1001, Integer.MAX_VALUE}) {
            int due = Math.min(n, 1000);
            Story story = new Story(checks, "SLEEP " + n, 5, code().push(n).op(Code.SLEEP, Code.RETURN)).turns(1, 1);
            story.fiber(0, 8, due);
            int left = due - 1;
            while (left > 0) {
                story.turns(Math.min(50, left), 0);
                left -= Math.min(50, left);
            }
            story.fiber(0, 0, 3).fiber(0, 8, 1).turns(1, 1).fiber(0, 0, 5).about(0, due + 1);
        }
    }

    /** "SLEEPING ones whose time has come BECOME READY, PASSING, by numbers", behind those that are there. */
    private static void wakeByNumbers() {
        Code main = code();
        for (int k = 1; k <= 3; k++) {
            main.with(Code.SPAWN, k).op(Code.DROP);
        }
        main.op(Code.YIELD).with(Code.JUMP, 6);
        Code[] sleepers = new Code[4];
        sleepers[0] = main;
        for (int k = 1; k <= 3; k++) {
            sleepers[k] = code().push(2 + k).op(Code.SLEEP).out(k).op(Code.RETURN);
        }
        Story story = new Story(checks, "by numbers", 5, sleepers).run(0).run(3).run(2).run(1);
        story.fiber(3, 8, 3).fiber(2, 8, 3).fiber(1, 8, 3).run(0).run(0).about(4, 1);
        story.run(0).about(4, 4).about(20, 1).about(21, 2).about(22, 3).about(23, 0).fiber(1, 6, 1).fiber(3, 6, 1);
    }

    /** Those that wake come to the row ahead of those whom an ABANDONED one sets free. */
    private static void wakeAheadOfAbandoned() {
        Code main = new Code(0, 0, 0, 1).op(Code.SELF, Code.LOCK, Code.SELF).with(Code.SPAWN, 1).with(Code.STORE, 0);
        main.with(Code.LOAD, 0).with(Code.SPAWN, 2).op(Code.DROP).with(Code.SPAWN, 3).op(Code.DROP, Code.SELF, Code.FREE);
        main.op(Code.YIELD, Code.SELF, Code.LOCK).with(Code.LOAD, 0).op(Code.KILL, Code.YIELD).with(Code.JUMP, 17);
        Code waits = new Code(1, 1, 0, 1).with(Code.LOAD, 0).op(Code.LOCK).with(Code.LOAD, 0).op(Code.WAIT, Code.RETURN);
        Code joins = new Code(1, 1, 0, 1).with(Code.LOAD, 0).op(Code.JOIN, Code.OUT, Code.RETURN);
        Code sleeps = code().push(13).op(Code.SLEEP).out(5).op(Code.RETURN);
        Story story = new Story(checks, "who wakes first", 9, main, waits, joins, sleeps).run(0).run(1).fiber(1, 0, 2);
        story.run(2).fiber(2, 0, 4).run(3).fiber(3, 8, 13).run(0).fiber(1, 5, 1).fiber(1, 0, 1).fiber(3, 8, 12).about(4, 1);
        for (int k = 11; k >= 1; k--) {
            story.run(0).fiber(3, 8, k).fiber(1, 0, 1).fiber(2, 0, 4);
        }
        story.run(0).fiber(1, 1, 3).about(4, 3).about(20, 3).about(21, 2).about(22, 0).fiber(3, 6, 1).fiber(2, 6, 1);
    }

    private static int next(int seed) {
        return seed * 1103515245 + 12345;
    }

    /** "If the READY ROW isn't empty: the seed becomes ..": turns without a fiber leave it as it is. */
    private static void emptyRowKeepsTheSeed() {
        Code two = code().with(Code.SPAWN, 1).op(Code.DROP).push(9).op(Code.SLEEP).out(0).op(Code.RETURN);
        Code other = code().push(8).op(Code.SLEEP).out(1).op(Code.RETURN);
        int[] firsts = new int[2];
        for (int seed = 0; seed < 40; seed++) {
            FiberLoom loom = Code.loom(two, other);
            int due = (next(seed) >>> 16) % 2;
            firsts[due]++;
            for (int w = 0; w < 2; w++) {
                loom.begin(w, 0, 9);
                checks.due("two fall asleep", loom.turns(w, 2, 7), 2);
                checks.due("for the same time", loom.fiber(w, 0, 8), 8);
                checks.due("for the same time", loom.fiber(w, 1, 8), 8);
                checks.due("seven turns without, one with", loom.turns(w, 8, seed), 1);
                checks.due("by the first seed", loom.output(w, 0), due);
            }
        }
        checks.due("both were first", firsts[0] > 0 && firsts[1] > 0, true);
    }

    /** "the fiber at place (seed >>> 16) modulo how many there are (from 0)": with 1, 2, 23 and 24 in the row. */
    private static void placesOfTheRow() {
        for (int many : new int[] {1, 2, 3, 23, 24}) {
            Code main = code();
            for (int k = 1; k < many; k++) {
                main.with(Code.SPAWN, 1).op(Code.DROP);
            }
            int top = main.here();
            main.op(Code.YIELD).with(Code.JUMP, top);
            Story story = new Story(checks, many + " are READY", 9, main, code().op(Code.YIELD).with(Code.JUMP, 0)).run(0);
            story.about(4, many).about(20 + many - 1, 0).about(20 + many, -1).about(19, -1);
            for (int f = many - 1; f >= 0; f--) {
                story.run(f).about(20 + many - 1, f);
            }
        }
    }

    /** "(an int)": seeds at both ends of the ints, one turn each and on and on. */
    private static void seedsThatWrap() {
        Code main = code();
        for (int k = 1; k < 7; k++) {
            main.push(k).with(Code.SPAWN, 1).op(Code.DROP);
        }
        main.push(0).with(Code.CALL, 1).op(Code.RETURN);
        Code worker = new Code(1, 0, 0, 1).op(Code.YIELD).with(Code.LOAD, 0).op(Code.OUT).with(Code.JUMP, 0);
        int[] seeds = {Integer.MIN_VALUE, Integer.MIN_VALUE + 1, -65537, -65536, -1, 0, 1, 65535, 65536,
            Integer.MAX_VALUE - 1, Integer.MAX_VALUE};
        for (int seed : seeds) {
            FiberLoom loom = Code.loom(main, worker);
            for (int w = 0; w < 2; w++) {
                loom.begin(w, 0, 50);
                loom.turns(w, 1, 0);
                int[] row = {1, 2, 3, 4, 5, 6, 0};
                int chance = seed;
                checks.due("50 turns", loom.turns(w, 50, seed), 50);
                for (int turn = 0; turn < 50; turn++) {
                    chance = next(chance);
                    int place = (chance >>> 16) % 7;
                    int chosen = row[place];
                    System.arraycopy(row, place + 1, row, place, 6 - place);
                    row[6] = chosen;
                }
                for (int k = 0; k < 7; k++) {
                    checks.due("seed " + seed + ", place " + k, loom.about(w, 20 + k), row[k]);
                }
            }
        }
    }

    private static Code counts() {
        return code().out(1).with(Code.JUMP, 0);
    }

    /** "the quantum is 1 less; if it is below 0 then, it BECOMES READY, PASSING, and stops". */
    private static void quantumIsSpent() {
        for (int quantum : new int[] {1, 2, 3, 99, 100}) {
            Story story = new Story(checks, "quantum " + quantum, quantum, counts()).turns(1, 1).about(3, quantum + 1);
            story.fiber(0, 0, 0).fiber(0, 6, 1).fiber(0, 3, 3 * quantum + 2).frame(0, 0, 1, 2).about(4, 1).about(20, 0);
        }
        for (int calls = 1; calls <= 4; calls++) {
            Code main = code();
            for (int k = 0; k < calls; k++) {
                main.with(Code.CALL, 1);
            }
            main.op(Code.RETURN);
            Story story = new Story(checks, calls + " CALLs with 2", 2, main, code().op(Code.RETURN)).turns(1, 1);
            story.fiber(0, 0, calls <= 2 ? 5 : 0).fiber(0, 6, calls <= 2 ? 0 : 1).fiber(0, 3, calls <= 2 ? 2 * calls + 1 : 4);
        }
    }

    /** "if it is PASSING: it is so no more, and goes on": each turn behind the first spends as many as that one. */
    private static void passingSpendsNothing() {
        for (int quantum : new int[] {1, 2, 100}) {
            Story story = new Story(checks, "quantum " + quantum, quantum, counts());
            for (int turn = 1; turn <= 4; turn++) {
                story.turns(1, 1).about(3, turn * (quantum + 1)).fiber(0, 6, 1);
            }
        }
        Code yields = code().op(Code.YIELD).out(1).with(Code.JUMP, 1);
        new Story(checks, "PASSING was for the YIELD", 1, yields).turns(1, 1).about(3, 0).turns(1, 1).about(3, 2)
            .fiber(0, 6, 1).turns(1, 1).about(3, 4);
    }

    /** "RUNS, with a new QUANTUM": what one left over isn't kept, neither by it nor by the next. */
    private static void quantumIsNew() {
        Code main = code().with(Code.SPAWN, 1).op(Code.DROP).out(1).op(Code.YIELD).with(Code.JUMP, 2);
        Story story = new Story(checks, "a new QUANTUM", 2, main, counts());
        for (int k = 1; k <= 6; k++) {
            story.run(0).about(3, k).frame(0, 0, 1, 4);
        }
        story.run(1).about(3, 6 + 3).run(1).about(3, 6 + 6).run(0).about(3, 13);
    }

    /** "but of a POINT just when it goes on or raises": one that stops is no STEP till then. */
    private static void pointsAreStepsWhenTheyGoOn() {
        new Story(checks, "YIELD", 5, code().op(Code.YIELD, Code.RETURN)).turns(1, 1).fiber(0, 3, 0).about(6, 0).about(5, 0)
            .turns(1, 1).fiber(0, 3, 2).about(6, 2).about(5, 2);
        new Story(checks, "SLEEP", 5, code().push(1).op(Code.SLEEP, Code.RETURN)).turns(1, 1).fiber(0, 3, 1)
            .turns(1, 1).fiber(0, 3, 3);
        new Story(checks, "SLEEP 0", 5, code().push(0).op(Code.SLEEP, Code.RETURN)).turns(1, 1).fiber(0, 3, 3);
        new Story(checks, "LOCK that goes on", 5, code().op(Code.SELF, Code.LOCK, Code.RETURN)).turns(1, 1).fiber(0, 3, 3);
        Code joins = code().with(Code.SPAWN, 1).op(Code.JOIN, Code.RETURN);
        new Story(checks, "JOIN", 5, joins, code().op(Code.RETURN)).turns(1, 1).fiber(0, 3, 1).turns(1, 1).fiber(0, 3, 1)
            .turns(1, 1).fiber(0, 3, 3);
    }

    /** One that raises was begun: it is a STEP, of a POINT and of others. */
    private static void raisesAreSteps() {
        Code[] all = {code().op(Code.NONE, Code.LOCK, Code.RETURN), code().op(Code.NEW, Code.WAIT, Code.RETURN),
            code().op(Code.NONE, Code.JOIN, Code.RETURN), code().op(Code.NEW, Code.JOIN, Code.RETURN),
            code().op(Code.NEW, Code.FREE, Code.RETURN), code().op(Code.NEW, Code.KILL, Code.RETURN),
            code().op(Code.NONE).with(Code.GET, 0).op(Code.RETURN), code().push(3).op(Code.RAISE, Code.RETURN),
            code().op(Code.NEW).with(Code.WAKE, 1).op(Code.RETURN)};
        for (int k = 0; k < all.length; k++) {
            new Story(checks, "raising " + k, 5, all[k]).turns(1, 1).fiber(0, 1, 2).fiber(0, 3, 2).about(6, 2);
        }
        new Story(checks, "by 0", 5, code().push(1).push(0).op(Code.REM, Code.RETURN)).turns(1, 1).fiber(0, 3, 3);
        Code own = code().op(Code.SELF, Code.KILL, Code.YIELD, Code.RETURN);
        new Story(checks, "DEATH at a POINT", 5, own).turns(1, 1).fiber(0, 2, -9).fiber(0, 3, 3);
    }

    /** DEATH that a SPEND raises comes ahead of the instruction: that isn't begun, and is no STEP. */
    private static void deathAtASpendIsNoStep() {
        Code back = code().op(Code.SELF, Code.KILL).with(Code.JUMP, 2);
        new Story(checks, "DEATH ahead of a BACK", 5, back).turns(1, 1).fiber(0, 1, 2).fiber(0, 2, -9).fiber(0, 3, 2).about(6, 2);
        Code call = code().op(Code.SELF, Code.KILL).with(Code.CALL, 1).op(Code.RETURN);
        new Story(checks, "DEATH ahead of a CALL", 5, call, code().op(Code.RETURN)).turns(1, 1).fiber(0, 2, -9).fiber(0, 3, 2);
        Code caught = code().op(Code.SELF, Code.KILL).with(Code.CALL, 1).op(Code.RETURN, Code.OUT, Code.RETURN).handler(2, 3, 4);
        new Story(checks, "and is caught", 5, caught, code().op(Code.RETURN)).turns(1, 1).fiber(0, 1, 1).output(-9).fiber(0, 3, 4);
        Code spends = code().with(Code.CALL, 1).with(Code.CALL, 1).op(Code.RETURN);
        new Story(checks, "a SPEND that stops is none too", 1, spends, code().op(Code.RETURN)).turns(1, 1).fiber(0, 3, 2)
            .turns(1, 1).fiber(0, 3, 5);
    }

    /** "5 the most STEPS of one RUN": a longer one later, a shorter one later, one of another fiber. */
    private static void mostStepsOfOneRun() {
        Code main = code().with(Code.SPAWN, 1).op(Code.DROP, Code.YIELD).out(1).out(2).op(Code.YIELD, Code.RETURN);
        Code other = code().out(1).op(Code.YIELD).out(1).out(1).out(1).op(Code.RETURN);
        Story story = new Story(checks, "most STEPS", 5, main, other).about(5, 0).run(0).about(5, 2).run(1).about(5, 2);
        story.run(0).about(5, 5).run(0).about(5, 5).run(1).about(5, 8).about(6, 2 + 2 + 5 + 2 + 8);
    }

    /** "rows .. each as often as it is begun: also a SPEND or POINT that stops, and those of AWAY and AGAIN". */
    private static void rowsAsTheyAreBegun() {
        Code calls = code().with(Code.CALL, 1).with(Code.CALL, 1).op(Code.RETURN);
        FiberLoom loom = Code.loom(calls, code().op(Code.RETURN));
        loom.begin(1, 0, 1);
        checks.due("none yet", loom.about(1, 7), 0);
        loom.turns(1, 1, 1);
        checks.due("ENTER, SPEND, LEFT, CALL, RETURN, SPEND, LEFT, QUIT", loom.about(1, 7), 8);
        loom.turns(1, 1, 1);
        checks.due("ENTER, JUMP, SPEND, LEFT, CALL, RETURN, RETURN", loom.about(1, 7), 15);
        loom.turns(1, 1, 1);
        checks.due("no more", loom.about(1, 7), 15);
        Code deep = code().push(4).with(Code.CALL, 1).op(Code.RETURN);
        FiberLoom two = Code.loom(deep, new Code(1, 0, 0, 1).op(Code.YIELD, Code.RETURN));
        two.begin(1, 0, 9);
        two.turns(1, 1, 1);
        checks.due("ENTER, PUSH, SPEND, LEFT, CALL; ENTER, YIELD, LEFT, QUIT; LEFT, QUIT", two.about(1, 7), 11);
        two.turns(1, 1, 1);
        checks.due("ENTER, PUSH, JUMP, CALL; ENTER, JUMP, YIELD, LEFT, RETURN; LEFT, RETURN", two.about(1, 7), 22);
        FiberLoom dies = Code.loom(code().op(Code.SELF, Code.KILL).with(Code.JUMP, 2));
        dies.begin(1, 0, 9);
        dies.turns(1, 1, 1);
        checks.due("ENTER, SELF, KILL, SPEND", dies.about(1, 7), 4);
        two.begin(0, 0, 9);
        two.turns(0, 2, 1);
        checks.due("none in world 0", two.about(0, 7), 0);
    }
}
