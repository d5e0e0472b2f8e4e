/** Methods that several tests use. */
final class Samples {
    private Samples() {
    }

    /** Main spawns two workers that count down, and joins them. */
    static Code[] joined() {
        Code main = new Code(0, 0, 0, 1);
        main.push(5).with(Code.SPAWN, 1).with(Code.STORE, 0).push(9).with(Code.SPAWN, 1).op(Code.JOIN, Code.OUT);
        main.with(Code.LOAD, 0).op(Code.JOIN, Code.OUT, Code.RETURN);
        Code worker = new Code(1, 0, 1, 2);
        worker.push(3).with(Code.STORE, 1).with(Code.LOAD, 0).op(Code.OUT).with(Code.LOAD, 1).push(1).op(Code.SUB);
        worker.with(Code.STORE, 1).push(0).with(Code.LOAD, 1).with(Code.JLESS, 2);
        worker.with(Code.LOAD, 0).with(Code.LOAD, 0).op(Code.ADD, Code.RETURN);
        return new Code[] {main, worker};
    }

    /**
     * Main calls with something on its stack and in live and dead slots; the callee, with an R and
     * two Ns, stops at a YIELD with an R and an N on its stack.
     */
    static Code[] deep() {
        Code main = new Code(0, 0, 1, 4);
        main.push(11).with(Code.STORE, 0).op(Code.NEW).with(Code.STORE, 1).push(99).with(Code.STORE, 3);
        main.push(100).op(Code.SELF).with(Code.LOAD, 1).push(21).push(22).with(Code.CALL, 1);
        main.with(Code.STORE, 2).op(Code.DROP).with(Code.LOAD, 2).op(Code.ADD).with(Code.LOAD, 0).op(Code.ADD);
        main.with(Code.LOAD, 1).with(Code.GET, 0).op(Code.ADD, Code.RETURN);
        Code callee = new Code(3, 1, 1, 5);
        callee.with(Code.LOAD, 0).push(7).op(Code.YIELD).with(Code.PUT, 0);
        callee.with(Code.LOAD, 1).with(Code.LOAD, 2).op(Code.SUB, Code.RETURN);
        return new Code[] {main, callee};
    }

    /** A method of every kind of instruction, reached or not, with handlers. */
    static Code[] mixed() {
        Code main = new Code(0, 0, 0, 6);
        main.op(Code.NEW).with(Code.STORE, 0).push(3).with(Code.STORE, 1).push(-5).with(Code.STORE, 2);
        int top = main.here();
        main.with(Code.LOAD, 0).op(Code.LOCK).with(Code.LOAD, 1).with(Code.CALL, 1).with(Code.STORE, 3);
        main.with(Code.LOAD, 1).with(Code.EACH, 2).with(Code.LOAD, 0).op(Code.FREE);
        main.with(Code.LOAD, 1).push(1).op(Code.SUB, Code.COPY).with(Code.STORE, 1);
        main.push(0).op(Code.SWAP).with(Code.JLESS, top);
        int over = main.here();
        main.with(Code.JUMP, over + 4).op(Code.YIELD).with(Code.CALL, 0).with(Code.JUMP, 0);
        main.with(Code.LOAD, 3).op(Code.OUT, Code.RETURN);
        main.handler(top, over, main.here());
        main.op(Code.OUT).with(Code.LOAD, 2).op(Code.SLEEP).with(Code.LOAD, 0).with(Code.JNONE, top).op(Code.RETURN);
        Code called = new Code(1, 0, 1, 2);
        called.push(10).with(Code.LOAD, 0).op(Code.DIV, Code.RETURN);
        Code each = new Code(1, 0, 0, 3);
        each.with(Code.LOAD, 0).push(2).op(Code.MUL, Code.OUT).with(Code.LOAD, 0).with(Code.JZERO, 7);
        each.op(Code.RETURN, Code.RETURN);
        return new Code[] {main, called, each};
    }
}
