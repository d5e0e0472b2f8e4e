/** A file in both worlds: what is due of one is due of the other one. */
final class Story {
    final FiberLoom loom;
    private final Checks checks;
    private final String name;
    private final ModelWorld[] models = new ModelWorld[2];
    private final Compare compare;

    Story(Checks checks, String name, int quantum, Code... codes) {
        this.checks = checks;
        this.name = name;
        loom = Code.loom(codes);
        Model model = new Model(codes);
        compare = new Compare(checks, loom, model);
        for (int w = 0; w < 2; w++) {
            checks.due(name + ": begin", loom.begin(w, 0, quantum), true);
            models[w] = new ModelWorld(model, w == 1, 0, quantum);
            compare.world(w, models[w]);
        }
    }

    private String at(int w, String what) {
        return name + ", world " + w + ": " + what;
    }

    Story turns(int n, int ran) {
        return turns(n, ran, 1);
    }

    Story turns(int n, int ran, int seed) {
        for (int w = 0; w < 2; w++) {
            checks.due(at(w, "turns"), loom.turns(w, n, seed), ran);
            checks.due(at(w, "turns of the model"), models[w].turns(n, seed), ran);
            compare.world(w, models[w]);
        }
        return this;
    }

    /** One turn in which a fiber that is in the ready row already runs. */
    Story run(int f) {
        int many = loom.about(0, 4);
        int place = 0;
        while (place < many && loom.about(0, 20 + place) != f) {
            place++;
        }
        int seed = 0;
        while ((seed * 1103515245 + 12345 >>> 16) % Math.max(many, 1) != place && seed < 100000) {
            seed++;
        }
        checks.due(name + ": it can run", place < many && seed < 100000, true);
        for (int w = 0; w < 2; w++) {
            checks.due(at(w, "a turn"), loom.turns(w, 1, seed), 1);
            checks.due(at(w, "a turn of the model"), models[w].turns(1, seed), 1);
            compare.world(w, models[w]);
        }
        return this;
    }

    Story output(int... wants) {
        for (int w = 0; w < 2; w++) {
            checks.due(at(w, "how many put out"), loom.about(w, 3), wants.length);
            for (int i = 0; i < wants.length; i++) {
                checks.due(at(w, "output " + i), loom.output(w, i), wants[i]);
            }
        }
        return this;
    }

    Story fiber(int f, int what, int due) {
        for (int w = 0; w < 2; w++) {
            checks.due(at(w, "fiber " + f + " " + what), loom.fiber(w, f, what), due);
        }
        return this;
    }

    Story object(int o, int what, int due) {
        for (int w = 0; w < 2; w++) {
            checks.due(at(w, "object " + o + " " + what), loom.object(w, o, what), due);
        }
        return this;
    }

    Story about(int what, int due) {
        for (int w = 0; w < 2; w++) {
            checks.due(at(w, "about " + what), loom.about(w, what), due);
        }
        return this;
    }

    Story frame(int f, int k, int what, int due) {
        for (int w = 0; w < 2; w++) {
            checks.due(at(w, "frame " + f + " " + k + " " + what), loom.frame(w, f, k, what), due);
        }
        return this;
    }
}
