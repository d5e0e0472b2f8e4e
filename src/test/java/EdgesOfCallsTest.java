import java.util.List;

/** Promises 1 to 15, each argument of each call: the last that is told, and the first that isn't. */
public final class EdgesOfCallsTest {
    private static final Checks checks = new Checks();
    private static final int LEAST = Integer.MIN_VALUE;
    private static final int MOST = Integer.MAX_VALUE;

    public static void main(String[] args) {
        nothingYet();
        feedSixThousand();
        feedRefused();
        fileOfSixThousand();
        loadOfWhatThereIs();
        loadRefused();
        loadWithAFault();
        loadEmptiesBothWorlds();
        faultTells();
        methodTells();
        beginRefused();
        beginAnew();
        beginAnewAfterAll();
        turnsRefused();
        turnsSinceLoad();
        fiberTells();
        frameTells();
        packedTells();
        objectTells();
        outputTells();
        aboutTells();
        checks.finish();
    }

    private static Code code() {
        return new Code(0, 0, 0, 0);
    }

    private static void same(String name, List<Integer> before, FiberLoom loom) {
        checks.due(name + ": nothing happened", Snapshot.of(loom).equals(before), true);
    }

    /** Promise 1: "No FILE; nothing in both worlds." */
    private static void nothingYet() {
        FiberLoom loom = new FiberLoom();
        checks.due("no method", loom.method(0, 0), -1);
        checks.due("no load, no fault", loom.fault(0), 0);
        for (int w = 0; w < 2; w++) {
            for (int what = 0; what <= 8; what++) {
                checks.due("about " + what, loom.about(w, what), 0);
            }
            checks.due("no one is ready", loom.about(w, 20), -1);
            checks.due("no fiber", loom.fiber(w, 0, 0), -1);
            checks.due("no object", loom.object(w, 1, 8), 0);
            checks.due("it hasn't begun", loom.turns(w, 1, 1), -1);
            checks.due("it can't begin", loom.begin(w, 0, 1), false);
        }
        same("those calls", Snapshot.of(new FiberLoom()), loom);
    }

    /** Promise 2: "false, and none comes, if there would be more than 6,000": 299, 300 and 301 times. */
    private static void feedSixThousand() {
        for (int times = 299; times <= 302; times++) {
            FiberLoom loom = new FiberLoom();
            for (int k = 1; k <= times; k++) {
                checks.due("feed " + k, loom.feed(70, 66, 1, 0, k), k <= 300);
            }
            int there = Math.min(300, times) * 20;
            checks.due("one more than there are", loom.load(there + 1), -1);
            checks.due("as many as there are", loom.load(there), 1);
            checks.due("none are there then", loom.load(1), -1);
            checks.due("there is room again", loom.feed(1, 2, 3, 4, 5), true);
            checks.due("for twenty", loom.load(21), -1);
            checks.due("for just twenty", loom.load(20), 1);
        }
    }

    /** What a refused feed told isn't on the tape: the last twenty bytes are those of the 300th. */
    private static void feedRefused() {
        int[] bytes = sixThousand();
        FiberLoom loom = new FiberLoom();
        Code.feed(loom, bytes);
        for (int k = 0; k < 3; k++) {
            checks.due("refused", loom.feed(-1, -1, -1, -1, -1), false);
        }
        checks.due("the whole file", loom.load(6000), 0);
        checks.due("its last byte", loom.instruction(23, 80, 0), Code.RETURN);
    }

    /** 24 methods of PUSH and DROP that are 6,000 bytes together. */
    private static int[] sixThousand() {
        Code[] codes = new Code[24];
        int left = 6000 - 3 - 24 * 7;
        for (int m = 0; m < 24; m++) {
            codes[m] = code();
            int mine = m == 23 ? left : 243;
            left -= mine;
            while (mine >= 6) {
                codes[m].push(m).op(Code.DROP);
                mine -= 6;
            }
            for (; mine > 0; mine--) {
                codes[m].op(Code.YIELD);
            }
            codes[m].op(Code.RETURN);
        }
        return Code.file(codes);
    }

    /** A FILE may have all 6,000 bytes. */
    private static void fileOfSixThousand() {
        int[] bytes = sixThousand();
        checks.due("6,000 bytes", bytes.length, 6000);
        for (int n : new int[] {5999, 6000, 6001}) {
            FiberLoom loom = new FiberLoom();
            Code.feed(loom, bytes);
            checks.due("load(" + n + ")", loom.load(n), n == 6000 ? 0 : n < 6000 ? 1 : -1);
            checks.due("fault(1) of " + n, loom.fault(1), n == 5999 ? 5999 : -1);
            checks.due("method 23 of " + n, loom.method(23, 4), n == 6000 ? 81 : -1);
        }
    }

    /** Promise 3: "if there are not so many, or n is below 0". */
    private static void loadOfWhatThereIs() {
        int[] bytes = Code.file(code().op(Code.RETURN));
        for (int n : new int[] {LEAST, -1, 0, 9, 10, 11, 19, 20, 21, MOST}) {
            FiberLoom loom = new FiberLoom();
            Code.feed(loom, bytes);
            int due = n < 0 || n > 20 ? -1 : n == 10 ? 0 : 1;
            checks.due("load(" + n + ")", loom.load(n), due);
            checks.due("fault(1) of " + n, loom.fault(1), due == 1 ? Math.min(n, 10) : -1);
            checks.due("what is left of the tape", loom.load(20), due < 0 ? 1 : -1);
        }
        FiberLoom loom = new FiberLoom();
        checks.due("load(0) of an empty tape", loom.load(0), 1);
        checks.due("at place 0", loom.fault(1), 0);
        checks.due("load(-1) of an empty tape", loom.load(-1), -1);
        checks.due("it was none", loom.fault(0), 1);
    }

    /** A loom in the middle of its work in both worlds. */
    private static FiberLoom busy() {
        FiberLoom loom = Code.loom(Samples.deep());
        for (int w = 0; w < 2; w++) {
            loom.begin(w, 0, 5);
            loom.turns(w, 1, 1);
        }
        return loom;
    }

    /** "NONE, and nothing happens": all stays, the tape too. */
    private static void loadRefused() {
        FiberLoom loom = busy();
        int[] bytes = Code.file(code().op(Code.RETURN));
        Code.feed(loom, bytes);
        List<Integer> before = Snapshot.of(loom);
        for (int n : new int[] {LEAST, -1, 21, 6000, MOST}) {
            checks.due("load(" + n + ")", loom.load(n), -1);
            same("load(" + n + ")", before, loom);
        }
        checks.due("the tape is still there", loom.load(10), 0);
        checks.due("and was read", loom.method(0, 4), 1);
    }

    /** "else its FAULT (what there was stays)", but for the tape, "which is empty then". */
    private static void loadWithAFault() {
        for (int kind = 1; kind <= 7; kind++) {
            FiberLoom loom = busy();
            List<Integer> before = Snapshot.of(loom);
            int[] bytes = Code.file(faulty(kind));
            checks.due("load with " + kind, Code.load(loom, bytes), kind);
            checks.due("fault(0)", loom.fault(0), kind);
            checks.due("the tape is empty", loom.load(1), -1);
            List<Integer> after = Snapshot.of(loom);
            checks.due("all but fault() stays", after.subList(3, after.size()).equals(before.subList(3, before.size())), true);
            for (int w = 0; w < 2; w++) {
                checks.due("it goes on", loom.turns(w, 1, 1), 1);
                checks.due("to its end", loom.fiber(w, 0, 2), 100 - 1 + 11 + 7);
            }
        }
    }

    private static Code[] faulty(int kind) {
        Code fine = code().op(Code.RETURN);
        Code full = code();
        for (int k = 0; k < 13; k++) {
            full.push(k);
        }
        switch (kind) {
            case 1: return new Code[] {new Code(0, 0, 3, 0).op(Code.RETURN)};
            case 2: return new Code[] {fine, code().op(Code.DROP, Code.RETURN)};
            case 3: return new Code[] {fine, code().op(Code.NONE, Code.OUT, Code.RETURN)};
            case 4: return new Code[] {fine, full.op(Code.RETURN)};
            case 5: return new Code[] {fine, code().op(Code.NONE).with(Code.JUMP, 0)};
            case 6: return new Code[] {fine, code().op(Code.YIELD)};
            default: return new Code[] {fine, code().push(1).with(Code.EACH, 0).op(Code.RETURN)};
        }
    }

    /** "0, and that is read: both worlds are empty then": also one that hasn't begun. */
    private static void loadEmptiesBothWorlds() {
        FiberLoom loom = busy();
        checks.due("load", Code.load(loom, Code.file(Samples.mixed())), 0);
        checks.due("as a new one", Snapshot.of(loom).equals(Snapshot.of(Code.loom(Samples.mixed()))), true);
        for (int w = 0; w < 2; w++) {
            checks.due("it hasn't begun", loom.turns(w, 1, 1), -1);
        }
    }

    private static void faults(FiberLoom loom, int... wants) {
        int[] whats = {-1, 0, 1, 2, 3};
        int[] dues = {-1, wants[0], wants[1], wants[2], -1};
        for (int k = 0; k < whats.length; k++) {
            checks.due("fault(" + whats[k] + ")", loom.fault(whats[k]), dues[k]);
        }
        checks.due("fault(MIN)", loom.fault(LEAST), -1);
        checks.due("fault(MAX)", loom.fault(MOST), -1);
    }

    /** Promise 4: of each FAULT, of none, and "ahead of any load() 0 has 0, the others NONE". */
    private static void faultTells() {
        FiberLoom loom = new FiberLoom();
        faults(loom, 0, -1, -1);
        int[][] dues = {{1, 5, -1}, {2, 1, 0}, {3, 1, 1}, {4, 1, 12}, {5, 1, 1}, {6, 1, 0}, {7, 1, 1}};
        for (int kind = 1; kind <= 7; kind++) {
            Code.load(loom, Code.file(faulty(kind)));
            faults(loom, dues[kind - 1]);
            loom.load(1);
            faults(loom, dues[kind - 1]);
        }
        Code.load(loom, Code.file(code().op(Code.RETURN)));
        faults(loom, 0, -1, -1);
    }

    /** Promise 5: methods -1 to one behind the last, and each what. */
    private static void methodTells() {
        Code[] codes = new Code[24];
        for (int m = 0; m < 24; m++) {
            codes[m] = new Code(m % 7, m % 7 == 0 ? 0 : 1, 0, 12 - m % 6).op(Code.RETURN);
        }
        FiberLoom loom = Code.loom(codes);
        for (int m : new int[] {LEAST, -1, 0, 1, 22, 23, 24, 25, MOST}) {
            boolean there = m >= 0 && m < 24;
            int[] wants = {m % 7, m % 7 == 0 ? 0 : 1, 0, 12 - m % 6, 1, 0, 0, 1, 0};
            for (int what = -1; what <= 10; what++) {
                int due = there && what >= 0 && what <= 8 ? wants[what] : -1;
                checks.due("method(" + m + ", " + what + ")", loom.method(m, what), due);
            }
            checks.due("method(" + m + ", MAX)", loom.method(m, MOST), -1);
            checks.due("method(" + m + ", MIN)", loom.method(m, LEAST), -1);
        }
    }

    /** Promise 8: "False, and nothing happens: no such world (0, 1) or method, one with params, or the quantum is not 1 to 100". */
    private static void beginRefused() {
        Code first = code().op(Code.YIELD, Code.RETURN);
        Code asks = new Code(1, 0, 0, 1).op(Code.RETURN);
        FiberLoom loom = Code.loom(first, asks, first);
        int[][] refused = {{LEAST, 0, 5}, {-1, 0, 5}, {2, 0, 5}, {MOST, 0, 5}, {0, -1, 5}, {0, 1, 5}, {0, 3, 5}, {1, -1, 5},
            {1, 1, 5}, {1, 3, 5}, {0, LEAST, 5}, {0, MOST, 5}, {0, 0, LEAST}, {0, 0, -1}, {0, 0, 0}, {0, 0, 101}, {0, 0, MOST},
            {1, 0, 0}, {1, 0, 101}, {1, 2, 101}, {1, 2, 0}};
        for (int round = 0; round < 2; round++) {
            List<Integer> before = Snapshot.of(loom);
            for (int[] one : refused) {
                String name = "begin(" + one[0] + ", " + one[1] + ", " + one[2] + ")";
                checks.due(name, loom.begin(one[0], one[1], one[2]), false);
                same(name, before, loom);
            }
            for (int w = 0; w < 2; w++) {
                checks.due("turns", loom.turns(w, 1, 1), round == 0 ? -1 : 1);
                for (int quantum : new int[] {1, 2, 99, 100}) {
                    checks.due("quantum " + quantum, loom.begin(w, 0, quantum), true);
                }
                checks.due("the last method", loom.begin(w, 2, 100), true);
            }
        }
    }

    /** "A world begins anew": as if it never had; the other one stays. */
    private static void beginAnew() {
        for (int w = 0; w < 2; w++) {
            FiberLoom loom = busy();
            FiberLoom other = Code.loom(Samples.deep());
            other.begin(1 - w, 0, 5);
            other.turns(1 - w, 1, 1);
            checks.due("begin again", loom.begin(w, 0, 7), true);
            checks.due("begin", other.begin(w, 0, 7), true);
            same("begin anew", Snapshot.of(other), loom);
        }
    }

    /** Fibers of all states, KILLED ones and ABANDONED ones, with locks, QUEUES, WAITERS and fields that are set. */
    private static Code[] everything() {
        Code main = new Code(0, 0, 0, 2).op(Code.SELF, Code.LOCK, Code.SELF, Code.LOCK, Code.SELF).push(7).with(Code.PUT, 1)
            .op(Code.SELF, Code.SELF).with(Code.KEEP, 2).out(3);
        for (int m = 1; m <= 5; m++) {
            main.op(Code.SELF).push(m).with(Code.SPAWN, m).with(Code.STORE, m % 2);
        }
        main.push(3).op(Code.SLEEP, Code.SELF, Code.WAIT).with(Code.LOAD, 0).op(Code.KILL).with(Code.LOAD, 1).op(Code.KILL, Code.YIELD)
            .with(Code.JUMP, main.here() - 1);
        Code locks = new Code(2, 1, 0, 2).with(Code.LOAD, 0).op(Code.LOCK).push(2).op(Code.SLEEP).with(Code.LOAD, 0)
            .with(Code.WAKE, 0).op(Code.RETURN);
        Code waits = new Code(2, 1, 0, 2).op(Code.SELF, Code.LOCK, Code.SELF, Code.LOCK, Code.SELF, Code.WAIT, Code.RETURN);
        Code joins = new Code(2, 1, 0, 2).with(Code.LOAD, 0).op(Code.JOIN, Code.RETURN);
        Code raises = new Code(2, 1, 0, 2).with(Code.LOAD, 1).op(Code.OUT, Code.NEW, Code.COPY).push(4).with(Code.PUT, 0).op(Code.LOCK)
            .with(Code.LOAD, 1).op(Code.RAISE);
        Code sleeps = new Code(2, 1, 1, 2).push(30).op(Code.SLEEP).with(Code.LOAD, 1).op(Code.RETURN);
        Code quiet = code();
        for (int k = 0; k < 8; k++) {
            quiet.with(Code.SPAWN, 7).op(Code.DROP, Code.NEW, Code.DROP);
        }
        Code yields = code().op(Code.YIELD, Code.RETURN);
        return new Code[] {main, locks, waits, joins, raises, sleeps, quiet.op(Code.YIELD, Code.RETURN), yields};
    }

    /** What was before begin() is nowhere to be seen behind it, however long it had run. */
    private static void beginAnewAfterAll() {
        for (int ran = 1; ran <= 30; ran++) {
            FiberLoom used = Code.loom(everything());
            FiberLoom fresh = Code.loom(everything());
            for (int w = 0; w < 2; w++) {
                used.begin(w, 0, 2);
                used.turns(w, ran, ran);
                used.begin(w, 6, 3);
                fresh.begin(w, 6, 3);
            }
            same("begin behind " + ran + " turns", Snapshot.of(fresh), used);
            for (int turn = 0; turn < 14; turn++) {
                for (int w = 0; w < 2; w++) {
                    checks.due("turns", used.turns(w, 1, turn), fresh.turns(w, 1, turn));
                }
                same("begin behind " + ran + " turns, turn " + turn, Snapshot.of(fresh), used);
            }
        }
    }

    /** Promise 9: "NONE, and nothing happens: no such world .. or n is not 1 to 50". */
    private static void turnsRefused() {
        FiberLoom loom = busy();
        List<Integer> before = Snapshot.of(loom);
        int[][] refused = {{LEAST, 1}, {-1, 1}, {2, 1}, {MOST, 1}, {0, LEAST}, {0, -1}, {0, 0}, {0, 51}, {0, MOST}, {1, 0},
            {1, 51}, {1, -1}};
        for (int[] one : refused) {
            String name = "turns(" + one[0] + ", " + one[1] + ", 1)";
            checks.due(name, loom.turns(one[0], one[1], 1), -1);
            same(name, before, loom);
        }
        for (int w = 0; w < 2; w++) {
            checks.due("turns(" + w + ", 1, 1)", loom.turns(w, 1, 1), 1);
            checks.due("turns(" + w + ", 50, 1)", loom.turns(w, 50, 1), 0);
            checks.due("time", loom.about(w, 0), 52);
        }
    }

    /** ".. it hasn't begun since load()": each world for itself, and a load with a FAULT ends nothing. */
    private static void turnsSinceLoad() {
        FiberLoom loom = Code.loom(code().op(Code.YIELD).with(Code.JUMP, 0));
        checks.due("not yet", loom.turns(0, 1, 1), -1);
        loom.begin(0, 0, 5);
        checks.due("world 0 has", loom.turns(0, 1, 1), 1);
        checks.due("world 1 hasn't", loom.turns(1, 1, 1), -1);
        checks.due("time stays", loom.about(1, 0), 0);
        Code.load(loom, Code.file(faulty(2)));
        checks.due("a load with a FAULT", loom.turns(0, 1, 1), 1);
        loom.load(99);
        checks.due("a load that is NONE", loom.turns(0, 1, 1), 1);
        Code.load(loom, Code.file(code().op(Code.RETURN)));
        checks.due("a load", loom.turns(0, 1, 1), -1);
        loom.begin(1, 0, 5);
        checks.due("begun anew", loom.turns(1, 1, 1), 1);
        checks.due("the other one hasn't", loom.turns(0, 1, 1), -1);
    }

    /** Promise 10: fibers -1 to one behind the last, and each what. */
    private static void fiberTells() {
        Code main = code().with(Code.SPAWN, 1).op(Code.DROP, Code.YIELD, Code.RETURN);
        FiberLoom loom = Code.loom(main, code().op(Code.RETURN));
        for (int w = 0; w < 2; w++) {
            loom.begin(w, 0, 5);
            checks.due("one fiber", loom.fiber(w, 1, 0), -1);
            loom.turns(w, 1, 1);
            int[][] wants = {{0, 0, 0, 2, 1, 0, 1, 1, 0, -1}, {0, 0, 0, 0, 1, 0, 0, 2, 0, -1}};
            for (int f : new int[] {LEAST, -1, 0, 1, 2, 3, 24, MOST}) {
                for (int what : new int[] {LEAST, -1, 0, 1, 2, 3, 4, 5, 6, 7, 8, 9, 10, 11, MOST}) {
                    boolean there = f >= 0 && f < 2 && what >= 0 && what < 10;
                    checks.due("fiber(" + w + ", " + f + ", " + what + ")", loom.fiber(w, f, what), there ? wants[f][what] : -1);
                    checks.due("no such world", loom.fiber(w == 0 ? -1 : 2, f, what), -1);
                }
            }
        }
    }

    /** Promise 11: frames, slots and places on the stack, one to either side; 0 for all that isn't there. */
    private static void frameTells() {
        FiberLoom loom = busy();
        int[][] slots = {{11, 2, 0, 0}, {0, 21, 22, 0, 0}};
        int[][] stacks = {{100, 1}, {2, 7}};
        int[][] heads = {{0, 11, 2}, {1, 2, 2}};
        for (int w = 0; w < 2; w++) {
            for (int k : new int[] {LEAST, -1, 0, 1, 2, 29, 30, MOST}) {
                boolean there = k == 0 || k == 1;
                for (int what = -1; what < 46; what++) {
                    int due = 0;
                    if (there && what >= 0 && what < 3) {
                        due = heads[k][what];
                    } else if (there && what >= 10 && what < 10 + slots[k].length) {
                        due = slots[k][what - 10];
                    } else if (there && what >= 30 && what < 30 + stacks[k].length) {
                        due = stacks[k][what - 30];
                    }
                    checks.due("frame(" + w + ", 0, " + k + ", " + what + ")", loom.frame(w, 0, k, what), due);
                    checks.due("fiber -1", loom.frame(w, -1, k, what), 0);
                    checks.due("fiber 1", loom.frame(w, 1, k, what), 0);
                    checks.due("no such world", loom.frame(w == 0 ? -1 : 2, 0, k, what), 0);
                }
                checks.due("what MIN", loom.frame(w, 0, k, LEAST), 0);
                checks.due("what MAX", loom.frame(w, 0, k, MOST), 0);
            }
        }
    }

    /** Promise 12: "the k-th, from the first one on; with k - 1 how many there are. 0 for others". */
    private static void packedTells() {
        FiberLoom loom = busy();
        int[][] wants = {{0, 1}, {7, 21, 22, 100, 11}, {2, 1, 2}};
        for (int which : new int[] {LEAST, -1, 0, 1, 2, 3, MOST}) {
            boolean there = which >= 0 && which < 3;
            for (int k = -3; k < 9; k++) {
                int due = !there ? 0 : k == -1 ? wants[which].length : k >= 0 && k < wants[which].length ? wants[which][k] : 0;
                checks.due("packed(0, " + which + ", " + k + ")", loom.packed(0, which, k), due);
                checks.due("fiber 1", loom.packed(1, which, k), 0);
                checks.due("fiber -1", loom.packed(-1, which, k), 0);
            }
            checks.due("k MIN", loom.packed(0, which, LEAST), 0);
            checks.due("k MAX", loom.packed(0, which, MOST), 0);
        }
        FiberLoom plain = Code.loom(Samples.deep());
        plain.begin(0, 0, 5);
        plain.turns(0, 1, 1);
        checks.due("world 0 packs nothing", plain.packed(0, 0, -1), 0);
        plain.begin(1, 0, 5);
        checks.due("a new one has packed nothing", plain.packed(0, 0, -1), 0);
    }

    /** Promise 13: objects 0 to one behind the last, and each what. */
    private static void objectTells() {
        Code main = code().op(Code.SELF, Code.LOCK, Code.SELF).with(Code.SPAWN, 1).op(Code.DROP, Code.SELF).push(5).with(Code.PUT, 0)
            .op(Code.SELF, Code.SELF).with(Code.KEEP, 3).op(Code.NEW, Code.COPY, Code.LOCK, Code.WAIT, Code.RETURN);
        Code locks = new Code(1, 1, 0, 1).with(Code.LOAD, 0).op(Code.LOCK, Code.RETURN);
        FiberLoom loom = Code.loom(main, locks);
        for (int w = 0; w < 2; w++) {
            loom.begin(w, 0, 5);
            loom.turns(w, 2, 1);
            for (int what = -2; what < 80; what++) {
                int first = what == 0 ? 5 : what == 7 || what == 9 || what == 10 || what == 20 ? 1 : 0;
                int third = what == 8 ? -1 : what == 11 ? 1 : 0;
                checks.due("object(" + w + ", 1, " + what + ")", loom.object(w, 1, what), first);
                checks.due("object(" + w + ", 2, " + what + ")", loom.object(w, 2, what), what == 8 ? -1 : 0);
                checks.due("object(" + w + ", 3, " + what + ")", loom.object(w, 3, what), third);
                for (int odd : new int[] {LEAST, -1, 0, 4, 300, 301, MOST}) {
                    checks.due("object(" + w + ", " + odd + ", " + what + ")", loom.object(w, odd, what), 0);
                    checks.due("object(" + (w == 0 ? -1 : 2) + ", 1, " + what + ")", loom.object(w == 0 ? -1 : 2, 1, what), 0);
                }
            }
            checks.due("what MIN", loom.object(w, 1, LEAST), 0);
            checks.due("what MAX", loom.object(w, 1, MOST), 0);
        }
    }

    /** Promise 14: the first number, the last, and one to either side. */
    private static void outputTells() {
        FiberLoom loom = Code.loom(code().out(4).out(-5).op(Code.RETURN));
        for (int w = 0; w < 2; w++) {
            loom.begin(w, 0, 5);
            checks.due("none yet", loom.output(w, 0), 0);
            loom.turns(w, 1, 1);
            int[][] dues = {{LEAST, 0}, {-1, 0}, {0, 4}, {1, -5}, {2, 0}, {499, 0}, {500, 0}, {MOST, 0}};
            for (int[] one : dues) {
                checks.due("output(" + w + ", " + one[0] + ")", loom.output(w, one[0]), one[1]);
                checks.due("no such world", loom.output(w == 0 ? -1 : 2, one[0]), 0);
            }
        }
    }

    /** Promise 15: each what, and the places of the READY ROW, one to either side. */
    private static void aboutTells() {
        Code main = code().with(Code.SPAWN, 1).op(Code.DROP, Code.YIELD, Code.RETURN);
        FiberLoom loom = Code.loom(main, code().op(Code.RETURN));
        for (int w = 0; w < 2; w++) {
            loom.begin(w, 0, 5);
            loom.turns(w, 1, 1);
            int[] wants = {1, 2, 2, 0, 2, 2, 2, w == 0 ? 0 : 6, 0};
            for (int what = -2; what < 70; what++) {
                int due = what >= 0 && what <= 8 ? wants[what] : what == 20 ? 1 : what == 21 ? 0 : -1;
                checks.due("about(" + w + ", " + what + ")", loom.about(w, what), due);
                checks.due("about(-1, " + what + ")", loom.about(-1, what), -1);
                checks.due("about(2, " + what + ")", loom.about(2, what), -1);
            }
            checks.due("what MIN", loom.about(w, LEAST), -1);
            checks.due("what MAX", loom.about(w, MOST), -1);
            checks.due("world MIN", loom.about(LEAST, 0), -1);
            checks.due("world MAX", loom.about(MOST, 0), -1);
        }
    }
}
