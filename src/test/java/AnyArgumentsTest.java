import java.util.Random;

/** No call throws, whatever its arguments and whatever state the object is in. */
public final class AnyArgumentsTest {
    private static final int[] ODD = {Integer.MIN_VALUE, Integer.MIN_VALUE + 1, -1000, -21, -20, -3, -2, -1, 0, 1, 2, 3,
        4, 5, 8, 9, 10, 11, 12, 19, 20, 21, 22, 23, 24, 25, 29, 30, 31, 41, 42, 49, 50, 51, 62, 99, 100, 101, 119, 120,
        299, 300, 301, 499, 500, 501, 5999, 6000, 6001, Integer.MAX_VALUE - 1, Integer.MAX_VALUE};

    public static void main(String[] args) {
        Checks checks = new Checks();
        for (int run = 0; run < 400; run++) {
            Random random = new Random(run);
            FiberLoom loom = new FiberLoom();
            for (int call = 0; call < 512; call++) {
                if (random.nextInt(60) == 0) {
                    Programs programs = new Programs(random);
                    Code.load(loom, Code.file(random.nextBoolean() ? programs.make() : programs.makeCrowd()));
                }
                call(loom, random);
            }
            checks.due("run " + run + " came to its end", true, true);
        }
        checks.finish();
    }

    private static int any(Random random) {
        return random.nextInt(4) == 0 ? random.nextInt() : ODD[random.nextInt(ODD.length)];
    }

    private static int few(Random random) {
        return random.nextInt(3) == 0 ? any(random) : random.nextInt(4);
    }

    private static void call(FiberLoom loom, Random random) {
        int world = random.nextInt(8) == 0 ? any(random) : random.nextInt(2);
        switch (random.nextInt(15)) {
            case 0: loom.feed(any(random), any(random), any(random), any(random), any(random)); break;
            case 1: loom.load(any(random)); break;
            case 2: loom.fault(any(random)); break;
            case 3: loom.method(few(random), any(random)); break;
            case 4: loom.instruction(few(random), any(random), any(random)); break;
            case 5: loom.row(few(random), any(random), few(random)); break;
            case 6: loom.begin(world, few(random), few(random)); break;
            case 7: case 8: loom.turns(world, few(random), any(random)); break;
            case 9: loom.fiber(world, few(random), any(random)); break;
            case 10: loom.frame(world, few(random), few(random), any(random)); break;
            case 11: loom.packed(few(random), few(random), any(random)); break;
            case 12: loom.object(world, few(random), any(random)); break;
            case 13: loom.output(world, any(random)); break;
            default: loom.about(world, any(random)); break;
        }
    }
}
