import java.util.Random;

/** An object that was used for other files and worlds answers as a new one does. */
public final class UsedAgainTest {
    public static void main(String[] args) {
        Checks checks = new Checks();
        FiberLoom used = new FiberLoom();
        int whole = 0;
        for (int k = 0; k < 300; k++) {
            Random random = new Random(5000 + k);
            Programs programs = new Programs(random);
            int[] bytes = Code.file(k % 2 == 0 ? programs.make() : programs.makeCrowd());
            FiberLoom fresh = new FiberLoom();
            int fault = Code.load(fresh, bytes);
            checks.due("load " + k, Code.load(used, bytes), fault);
            if (fault != 0) {
                continue;
            }
            whole++;
            for (int begun = 0; begun < 2; begun++) {
                int quantum = 1 + random.nextInt(20);
                int seed = random.nextInt();
                for (int w = 0; w < 2; w++) {
                    used.begin(w, 0, quantum);
                    fresh.begin(w, 0, quantum);
                    checks.due("turns", used.turns(w, 20, seed), fresh.turns(w, 20, seed));
                    same(checks, "file " + k, w, used, fresh);
                }
            }
        }
        checks.due("enough files", whole > 100, true);
        checks.finish();
    }

    private static void same(Checks checks, String name, int w, FiberLoom used, FiberLoom fresh) {
        for (int what = 0; what < 30; what++) {
            checks.due(name + " about", used.about(w, what), fresh.about(w, what));
        }
        for (int i = 0; i < 40; i++) {
            checks.due(name + " output", used.output(w, i), fresh.output(w, i));
        }
        for (int f = 0; f < 24; f++) {
            for (int what = 0; what < 10; what++) {
                checks.due(name + " fiber", used.fiber(w, f, what), fresh.fiber(w, f, what));
            }
            for (int what = 0; what < 40; what++) {
                checks.due(name + " frame", used.frame(w, f, 0, what), fresh.frame(w, f, 0, what));
                checks.due(name + " frame", used.frame(w, f, 1, what), fresh.frame(w, f, 1, what));
            }
            for (int which = 0; which < 3; which++) {
                for (int k = -1; k < 8; k++) {
                    checks.due(name + " packed", used.packed(f, which, k), fresh.packed(f, which, k));
                }
            }
        }
        for (int o = 1; o < 30; o++) {
            for (int what = 0; what < 60; what++) {
                checks.due(name + " object", used.object(w, o, what), fresh.object(w, o, what));
            }
        }
    }
}
