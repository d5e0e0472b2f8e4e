import java.util.Arrays;
import java.util.Random;

/** What was wrong with the latest load, and where. */
public final class Promise04FaultTest {
    private static final Checks checks = new Checks();

    public static void main(String[] args) {
        untold();
        bytes();
        chanceBytes();
        types();
        eaches();
        checks.finish();
    }

    private static void fault(String name, FiberLoom loom, int kind, int place, int at) {
        checks.due(name + " fault(0)", loom.fault(0), kind);
        checks.due(name + " fault(1)", loom.fault(1), place);
        checks.due(name + " fault(2)", loom.fault(2), at);
    }

    private static void untold() {
        FiberLoom loom = new FiberLoom();
        for (int what : new int[] {-1, 3, 4, Integer.MIN_VALUE, Integer.MAX_VALUE}) {
            checks.due("fault(" + what + ")", loom.fault(what), -1);
        }
        fault("ahead of any load", loom, 0, -1, -1);
        loom.load(1);
        fault("a load of too many is none", loom, 0, -1, -1);
        loom.load(0);
        fault("nothing", loom, 1, 0, -1);
        Code.load(loom, Code.file(new Code(0, 0, 0, 0).op(Code.YIELD, Code.DROP)));
        fault("types", loom, 2, 0, 1);
        Code.load(loom, Code.file(new Code(0, 0, 0, 0).op(Code.RETURN)));
        fault("none", loom, 0, -1, -1);
        checks.due("fault(3)", loom.fault(3), -1);
    }

    private static void wrongByte(int place, int... bytes) {
        FiberLoom loom = new FiberLoom();
        checks.due(Arrays.toString(bytes), Code.load(loom, bytes), 1);
        fault(Arrays.toString(bytes), loom, 1, place, -1);
    }

    private static void bytes() {
        wrongByte(0, 71, 66, 1);
        wrongByte(1, 70, 67, 1);
        wrongByte(1, 70);
        wrongByte(2, 70, 66, 0);
        wrongByte(2, 70, 66, 25);
        wrongByte(3, 70, 66, 1);
        wrongByte(3, 70, 66, 1, 7);
        wrongByte(4, 70, 66, 1, 0, 1);
        wrongByte(4, 70, 66, 1, 3, 8);
        wrongByte(5, 70, 66, 1, 3, 7, 3);
        wrongByte(6, 70, 66, 1, 3, 7, 2, 2);
        wrongByte(6, 70, 66, 1, 0, 0, 2, 13);
        wrongByte(7, 70, 66, 1, 0, 0, 0, 0, 0);
        wrongByte(7, 70, 66, 1, 0, 0, 0, 0, 121);
        wrongByte(8, 70, 66, 1, 0, 0, 0, 0, 1, 7);
        wrongByte(9, 70, 66, 1, 0, 0, 0, 0, 1, 0, 37);
        wrongByte(9, 70, 66, 1, 0, 0, 0, 0, 1, 0);
        wrongByte(13, 70, 66, 1, 0, 0, 0, 0, 1, 0, 0, 1, 2, 3);
        wrongByte(10, 70, 66, 1, 0, 0, 0, 0, 1, 0, 2, 0);
        wrongByte(10, 70, 66, 1, 0, 0, 0, 2, 1, 0, 3, 2);
        wrongByte(10, 70, 66, 1, 0, 0, 0, 2, 1, 0, 12, 1);
        wrongByte(10, 70, 66, 1, 0, 0, 0, 2, 1, 0, 16, 1);
        wrongByte(10, 70, 66, 1, 0, 0, 0, 2, 1, 0, 18, 4);
        wrongByte(10, 70, 66, 1, 0, 0, 0, 2, 1, 0, 21, 4);
        wrongByte(10, 70, 66, 1, 0, 0, 0, 2, 1, 0, 22, 1);
        wrongByte(10, 70, 66, 1, 0, 0, 0, 2, 1, 0, 27, 1);
        wrongByte(10, 70, 66, 1, 0, 0, 0, 2, 1, 0, 28, 1);
        wrongByte(10, 70, 66, 1, 0, 0, 0, 2, 1, 0, 31, 2);
        wrongByte(10, 70, 66, 1, 0, 0, 0, 0, 1, 0, 23, 9);
        wrongByte(12, 70, 66, 1, 0, 0, 0, 0, 2, 1, 23, 23, 0, 0);
        wrongByte(12, 70, 66, 1, 0, 0, 0, 0, 2, 1, 23, 23, 1, 1);
        wrongByte(11, 70, 66, 1, 0, 0, 0, 0, 2, 1, 23, 23, 2);
        wrongByte(13, 70, 66, 1, 0, 0, 0, 0, 3, 1, 23, 23, 23, 0, 3, 1);
        wrongByte(14, 70, 66, 1, 0, 0, 0, 0, 3, 1, 23, 23, 23, 0, 2, 1);
        wrongByte(14, 70, 66, 1, 0, 0, 0, 0, 3, 1, 23, 23, 23, 0, 1, 3);
        wrongByte(10, 70, 66, 2, 0, 0, 0, 0, 1, 0, 23);
    }

    private static void chanceBytes() {
        int places = 0;
        for (int k = 0; k < 6000; k++) {
            Random random = new Random(k);
            Programs programs = new Programs(random);
            int[] bytes = Code.file(k % 3 == 0 ? programs.make() : programs.makeCrowd());
            int length = bytes.length;
            switch (random.nextInt(4)) {
                case 0:
                    length = random.nextInt(length);
                    break;
                case 1:
                    bytes = Arrays.copyOf(bytes, length + 1 + random.nextInt(5));
                    length = bytes.length;
                    break;
                default:
                    int at = random.nextBoolean() ? random.nextInt(length) : Math.max(0, length - 1 - random.nextInt(20));
                    bytes[at] = random.nextInt(random.nextBoolean() ? 256 : 40);
                    break;
            }
            if (length > 6000) {
                continue;
            }
            FiberLoom loom = new FiberLoom();
            Code.feed(loom, bytes);
            int due = Bytes.wrongPlace(bytes, length);
            int got = loom.load(length);
            checks.due("bytes by chance " + k, got == 1, due >= 0);
            if (due >= 0) {
                fault("bytes by chance " + k, loom, 1, due, -1);
                places++;
            }
        }
        checks.due("enough faults", places > 2000, true);
    }

    private static void types(String name, int kind, int m, int i, Code... codes) {
        FiberLoom loom = new FiberLoom();
        checks.due(name, Code.load(loom, Code.file(codes)), kind);
        fault(name, loom, kind, m, i);
        Model model = new Model(codes);
        checks.due(name + " of the model", model.fault, kind);
    }

    private static Code code() {
        return new Code(0, 0, 0, 3);
    }

    private static Code full(int many) {
        Code code = code();
        for (int k = 0; k < many; k++) {
            code.push(k);
        }
        return code;
    }

    private static void types() {
        Code fine = code().op(Code.RETURN);
        Code asks = new Code(2, 1, 0, 2).op(Code.RETURN);
        Code gives = new Code(0, 0, 1, 0).push(1).op(Code.RETURN);
        types("2 of an empty stack", 2, 0, 0, code().op(Code.DROP, Code.RETURN));
        types("2 in the second method", 2, 1, 1, fine, code().push(1).op(Code.ADD, Code.RETURN));
        types("2 of a result", 2, 0, 0, new Code(0, 0, 1, 0).op(Code.RETURN));
        types("2 of a call", 2, 0, 1, code().op(Code.NONE).with(Code.CALL, 1).op(Code.RETURN), asks);
        types("3 of an R", 3, 0, 2, code().op(Code.NONE).push(1).op(Code.ADD, Code.RETURN));
        types("3 of an N", 3, 0, 1, code().push(1).op(Code.LOCK, Code.RETURN));
        types("3 of a PUT", 3, 0, 2, code().push(1).op(Code.NONE).with(Code.PUT, 0).op(Code.RETURN));
        types("3 of a result", 3, 0, 1, new Code(0, 0, 2, 0).push(1).op(Code.RETURN));
        types("3 of params", 3, 0, 2, code().push(1).push(1).with(Code.CALL, 1).op(Code.RETURN), asks);
        types("none of params", 0, -1, -1, code().op(Code.NONE).push(1).with(Code.SPAWN, 1).op(Code.RETURN), asks);
        types("3 of UNSET", 3, 0, 0, code().with(Code.LOAD, 0).op(Code.RETURN));
        types("3 of UNSET with a full stack", 3, 0, 12, full(12).with(Code.LOAD, 0).op(Code.RETURN));
        types("none with 12", 0, -1, -1, full(12).op(Code.RETURN));
        types("4 with 13", 4, 0, 12, full(13).op(Code.RETURN));
        types("4 of COPY", 4, 0, 12, full(12).op(Code.COPY, Code.RETURN));
        types("none of SWAP", 0, -1, -1, full(12).op(Code.SWAP, Code.RETURN));
        types("4 of a CALL", 4, 0, 12, full(12).with(Code.CALL, 1).op(Code.RETURN), gives);
        types("5 of another height", 5, 0, 1, code().push(1).with(Code.JUMP, 0));
        types("5 of another type", 5, 0, 4,
            code().push(1).with(Code.JZERO, 4).op(Code.NONE).with(Code.JUMP, 5).push(1).op(Code.DROP, Code.RETURN));
        types("5 of a handler", 5, 0, 0, code().op(Code.YIELD).op(Code.RETURN, Code.RETURN).handler(0, 1, 1));
        types("5 of a handler ahead of the next", 5, 0, 1,
            code().op(Code.YIELD, Code.NONE, Code.DROP, Code.RETURN).handler(1, 2, 2));
        types("5 of a handler whose AT was reached ahead of it", 5, 0, 2, code().push(1).with(Code.JZERO, 4)
            .op(Code.YIELD, Code.RETURN, Code.RETURN).handler(2, 3, 4));
        types("5 of a jump to a handler's AT", 5, 0, 1, code().op(Code.YIELD).with(Code.JUMP, 3).op(Code.DROP, Code.RETURN)
            .handler(0, 1, 2).handler(0, 1, 3));
        types("6 at the end", 6, 0, 0, code().op(Code.YIELD));
        types("6 behind a jump", 6, 0, 1, code().push(0).with(Code.JZERO, 0));
        types("a handler at the next one", 5, 0, 0, code().op(Code.YIELD, Code.YIELD).handler(0, 1, 1));
        types("none behind 12", 0, -1, -1, code().with(Code.JUMP, 0));
        types("none behind 24", 0, -1, -1, code().push(0).op(Code.RAISE));
        types("not reached", 0, -1, -1, code().op(Code.RETURN, Code.DROP));
        types("found in a later round", 3, 0, 2,
            code().push(1).with(Code.STORE, 0).with(Code.LOAD, 0).op(Code.DROP, Code.NONE)
                .with(Code.STORE, 0).with(Code.JUMP, 2));
        types("slots of handlers are those ahead", 3, 0, 4,
            code().push(1).with(Code.STORE, 0).op(Code.RETURN, Code.DROP).with(Code.LOAD, 0)
                .op(Code.OUT, Code.RETURN).handler(1, 2, 3));
        types("the first method is told", 6, 0, 0, code().op(Code.YIELD), code().op(Code.DROP, Code.RETURN));
        types("the first that is met", 3, 0, 1, code().op(Code.NONE).op(Code.OUT).op(Code.DROP));
    }

    private static void eaches() {
        Code calls = code().push(2).with(Code.EACH, 1).op(Code.RETURN);
        types("fits", 0, -1, -1, calls, new Code(1, 0, 0, 1).op(Code.RETURN));
        types("7 of no param", 7, 0, 1, calls, code().op(Code.RETURN));
        types("7 of two", 7, 0, 1, calls, new Code(2, 0, 0, 2).op(Code.RETURN));
        types("7 of an R", 7, 0, 1, calls, new Code(1, 1, 0, 1).op(Code.RETURN));
        types("7 of a result", 7, 0, 1, calls, new Code(1, 0, 1, 1).push(1).op(Code.RETURN));
        types("7 of a point", 7, 0, 1, calls, new Code(1, 0, 0, 1).op(Code.YIELD, Code.RETURN));
        types("not of a point that isn't reached", 0, -1, -1, calls, new Code(1, 0, 0, 1).op(Code.RETURN, Code.YIELD));
        types("7 of an EACH", 7, 0, 1, calls, new Code(1, 0, 0, 1).with(Code.LOAD, 0).with(Code.EACH, 2)
            .op(Code.RETURN), new Code(1, 0, 0, 1).op(Code.RETURN));
        types("not of an EACH that isn't reached", 0, -1, -1, calls,
            new Code(1, 0, 0, 1).op(Code.RETURN).with(Code.EACH, 0).op(Code.RETURN));
        types("7 of itself", 7, 0, 1, new Code(1, 0, 0, 1).with(Code.LOAD, 0).with(Code.EACH, 0).op(Code.RETURN));
        types("types of later methods come ahead of 7", 2, 2, 0, calls, code().op(Code.RETURN), code().op(Code.DROP));
        types("not of an EACH that isn't reached here", 0, -1, -1,
            code().op(Code.RETURN).push(1).with(Code.EACH, 0).op(Code.RETURN));
    }
}
