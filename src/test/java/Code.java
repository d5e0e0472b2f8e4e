import java.util.ArrayList;
import java.util.List;

/** Writes the bytes of one method, and files of several. */
final class Code {
    static final int PUSH = 0, NONE = 1, LOAD = 2, STORE = 3, DROP = 4, COPY = 5, SWAP = 6, ADD = 7,
        SUB = 8, MUL = 9, DIV = 10, REM = 11, JUMP = 12, JZERO = 13, JLESS = 14, JNONE = 15, JSAME = 16,
        NEW = 17, GET = 18, PUT = 19, FETCH = 20, KEEP = 21, CALL = 22, RETURN = 23, RAISE = 24, OUT = 25,
        SELF = 26, SPAWN = 27, EACH = 28, KILL = 29, FREE = 30, WAKE = 31, YIELD = 32, SLEEP = 33,
        JOIN = 34, LOCK = 35, WAIT = 36;

    final int params;
    final int types;
    final int result;
    final int slots;
    final List<int[]> list = new ArrayList<>();
    final List<int[]> handlers = new ArrayList<>();

    Code(int params, int types, int result, int slots) {
        this.params = params;
        this.types = types;
        this.result = result;
        this.slots = slots;
    }

    Code op(int... ops) {
        for (int op : ops) {
            list.add(new int[] {op, 0});
        }
        return this;
    }

    Code with(int op, int told) {
        list.add(new int[] {op, told});
        return this;
    }

    Code push(int number) {
        return with(PUSH, number);
    }

    Code out(int number) {
        return push(number).op(OUT);
    }

    Code handler(int from, int to, int at) {
        handlers.add(new int[] {from, to, at});
        return this;
    }

    int here() {
        return list.size();
    }

    void patch(int i, int told) {
        list.get(i)[1] = told;
    }

    /** Whether a byte is told with an op (a PUSH has four). */
    static boolean tells(int op) {
        return op == LOAD || op == STORE || op >= JUMP && op <= JSAME || op >= GET && op <= CALL
            || op == SPAWN || op == EACH || op == WAKE;
    }

    private void write(List<Integer> bytes) {
        for (int one : new int[] {params, types, result, slots, list.size(), handlers.size()}) {
            bytes.add(one);
        }
        for (int[] one : list) {
            bytes.add(one[0]);
            if (one[0] == PUSH) {
                for (int shift = 24; shift >= 0; shift -= 8) {
                    bytes.add(one[1] >>> shift & 255);
                }
            } else if (tells(one[0])) {
                bytes.add(one[1]);
            }
        }
        for (int[] h : handlers) {
            for (int one : h) {
                bytes.add(one);
            }
        }
    }

    static int[] file(Code... methods) {
        List<Integer> bytes = new ArrayList<>(List.of(70, 66, methods.length));
        for (Code method : methods) {
            method.write(bytes);
        }
        int[] all = new int[bytes.size()];
        for (int k = 0; k < all.length; k++) {
            all[k] = bytes.get(k) & 255;
        }
        return all;
    }

    static void feed(FiberLoom loom, int[] bytes) {
        for (int at = 0; at < bytes.length; at += 20) {
            int[] five = new int[5];
            for (int k = 0; k < 20; k++) {
                five[k / 4] = five[k / 4] << 8 | (at + k < bytes.length ? bytes[at + k] : 0);
            }
            loom.feed(five[0], five[1], five[2], five[3], five[4]);
        }
    }

    static int load(FiberLoom loom, int[] bytes) {
        feed(loom, bytes);
        return loom.load(bytes.length);
    }

    /** A new loom with these methods; they must be a file without a fault. */
    static FiberLoom loom(Code... methods) {
        FiberLoom loom = new FiberLoom();
        int fault = load(loom, file(methods));
        if (fault != 0) {
            throw new IllegalStateException("fault " + fault + " at " + loom.fault(1) + ", " + loom.fault(2));
        }
        return loom;
    }
}
