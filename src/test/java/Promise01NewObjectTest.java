/** A new object has no FILE, and nothing in both worlds. */
public final class Promise01NewObjectTest {
    public static void main(String[] args) {
        Checks checks = new Checks();
        FiberLoom loom = new FiberLoom();
        checks.due("NONE", FiberLoom.NONE, -1);
        checks.due("fault(0)", loom.fault(0), 0);
        checks.due("fault(1)", loom.fault(1), -1);
        checks.due("fault(2)", loom.fault(2), -1);
        for (int what = -2; what < 90; what++) {
            checks.due("method", loom.method(0, what), -1);
            checks.due("instruction", loom.instruction(0, 0, what), -1);
            checks.due("row", loom.row(0, 0, what), -1);
            checks.due("packed", loom.packed(0, what, -1), 0);
            for (int world = -1; world < 3; world++) {
                checks.due("fiber", loom.fiber(world, 0, what), -1);
                checks.due("frame", loom.frame(world, 0, 0, what), 0);
                checks.due("object 0", loom.object(world, 0, what), 0);
                checks.due("object 1", loom.object(world, 1, what), 0);
                checks.due("output", loom.output(world, what), 0);
                boolean told = (world == 0 || world == 1) && what >= 0 && what <= 8;
                checks.due("about", loom.about(world, what), told ? 0 : -1);
            }
        }
        for (int world = -1; world < 3; world++) {
            checks.due("begin", loom.begin(world, 0, 1), false);
            checks.due("turns", loom.turns(world, 1, 1), -1);
        }
        checks.due("load(1)", loom.load(1), -1);
        checks.due("two objects have nothing in common", loom.feed(0, 0, 0, 0, 0), true);
        checks.due("another's tape", new FiberLoom().load(20), -1);
        checks.finish();
    }
}
