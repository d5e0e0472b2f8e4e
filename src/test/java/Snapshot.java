import java.util.ArrayList;
import java.util.List;

/** All that a loom tells, in one list: two of them are the same if nothing happened in between. */
final class Snapshot {
    private final List<Integer> all = new ArrayList<>();

    static List<Integer> of(FiberLoom loom) {
        Snapshot taken = new Snapshot();
        taken.file(loom);
        for (int w = 0; w < 2; w++) {
            taken.world(loom, w);
        }
        return taken.all;
    }

    private void file(FiberLoom loom) {
        for (int what = 0; what < 3; what++) {
            all.add(loom.fault(what));
        }
        for (int m = 0; loom.method(m, 0) >= 0; m++) {
            for (int what = 0; what < 9; what++) {
                all.add(loom.method(m, what));
            }
            for (int i = 0; i < loom.method(m, 4); i++) {
                for (int what = 0; what < 62; what++) {
                    all.add(loom.instruction(m, i, what));
                }
            }
            for (int r = 0; r < loom.method(m, 7); r++) {
                all.add(loom.row(m, r, 0));
                all.add(loom.row(m, r, 1));
            }
        }
    }

    private void world(FiberLoom loom, int w) {
        for (int what = 0; what < 44; what++) {
            all.add(loom.about(w, what));
        }
        for (int f = 0; f < loom.about(w, 1); f++) {
            for (int what = 0; what < 10; what++) {
                all.add(loom.fiber(w, f, what));
            }
            for (int k = 0; k < loom.fiber(w, f, 4); k++) {
                for (int what = 0; what < 42; what++) {
                    all.add(loom.frame(w, f, k, what));
                }
            }
            for (int which = 0; which < 3; which++) {
                for (int k = -1; k < loom.packed(f, which, -1); k++) {
                    all.add(loom.packed(f, which, k));
                }
            }
        }
        for (int o = 1; o <= loom.about(w, 2); o++) {
            for (int what = 0; what < 74; what++) {
                all.add(loom.object(w, o, what));
            }
        }
        for (int i = 0; i < 500; i++) {
            all.add(loom.output(w, i));
        }
    }
}
