import java.util.Random;

/** Files made by chance: every answer is held against a second reading of the document. */
public final class ModelsFuzzTest {
    private static final int FILES = Integer.getInteger("files", 1500);

    public static void main(String[] args) {
        Checks checks = new Checks();
        int whole = 0;
        int ringed = 0;
        int[] faults = new int[8];
        int[] hows = new int[4];
        int[] states = new int[6];
        for (int file = 0; file < FILES && checks.wrong() == 0; file++) {
            Random random = new Random(Integer.getInteger("first", 0) + file);
            Programs programs = new Programs(random);
            Code[] codes = file % 2 == 0 ? programs.make() : programs.makeCrowd();
            int[] bytes = Code.file(codes);
            boolean fits = bytes.length <= 6000;
            for (Code code : codes) {
                fits &= code.list.size() <= 120;
            }
            if (!fits) {
                continue;
            }
            if (random.nextInt(4) == 0) {
                spoil(codes, random);
                bytes = Code.file(codes);
            }
            Model model = new Model(codes);
            FiberLoom loom = new FiberLoom();
            String name = "file " + file;
            checks.due(name + " load", Code.load(loom, bytes), model.fault);
            checks.due(name + " fault(1)", loom.fault(1), model.faultMethod);
            checks.due(name + " fault(2)", loom.fault(2), model.faultInstruction);
            faults[model.fault]++;
            if (model.fault != 0) {
                continue;
            }
            whole++;
            Compare compare = new Compare(checks, loom, model);
            compare.methods();
            int quantum = random.nextBoolean() ? 1 + random.nextInt(8) : 1 + random.nextInt(100);
            int seed = random.nextInt();
            for (int w = 0; w < 2; w++) {
                Random same = new Random(seed);
                ModelWorld world = new ModelWorld(model, w == 1, 0, quantum);
                checks.due(name + " begin", loom.begin(w, 0, quantum), true);
                compare.world(w, world);
                for (int k = 0; k < 25 && checks.wrong() == 0; k++) {
                    int n = 1 + same.nextInt(k > 18 ? 50 : 4);
                    int chance = same.nextInt();
                    checks.due(name + " turns", loom.turns(w, n, chance), world.turns(n, chance));
                    compare.world(w, world);
                    ringed += world.ringed();
                    for (ModelWorld.Strand one : world.strands) {
                        states[one.state]++;
                    }
                }
                for (ModelWorld.Strand one : world.strands) {
                    hows[one.how]++;
                }
            }
            if (checks.wrong() != 0) {
                System.out.println("in file " + file);
            }
        }
        System.out.println(whole + " files without a fault; faults " + java.util.Arrays.toString(faults)
            + ", ends " + java.util.Arrays.toString(hows) + ", states " + java.util.Arrays.toString(states) + ", on rings " + ringed);
        checks.due("files of some worth", whole > FILES / 4, true);
        checks.finish();
    }

    /** Changes an instruction or a handler, so that all that is told is there still. */
    static void spoil(Code[] codes, Random random) {
        int times = 1 + random.nextInt(3);
        for (int t = 0; t < times; t++) {
            Code code = codes[random.nextInt(codes.length)];
            int count = code.list.size();
            int[] one = code.list.get(random.nextInt(count));
            if (random.nextInt(5) == 0 && count > 2 && !code.handlers.isEmpty()) {
                int[] h = code.handlers.get(random.nextInt(code.handlers.size()));
                h[0] = random.nextInt(count - 2);
                h[1] = h[0] + 1 + random.nextInt(count - h[0] - 1);
                h[2] = h[1] + random.nextInt(count - h[1]);
                continue;
            }
            if (random.nextBoolean()) {
                one[0] = random.nextInt(37);
            }
            one[1] = told(one[0], code, codes.length, random);
        }
    }

    private static int told(int op, Code code, int methods, Random random) {
        if (op == Code.PUSH) {
            return random.nextInt();
        }
        if (op == Code.LOAD || op == Code.STORE) {
            return random.nextInt(code.slots);
        }
        if (op >= Code.JUMP && op <= Code.JSAME) {
            return random.nextInt(code.list.size());
        }
        if (op == Code.CALL || op == Code.SPAWN || op == Code.EACH) {
            return random.nextInt(methods);
        }
        return op >= Code.GET && op <= Code.KEEP ? random.nextInt(4) : op == Code.WAKE ? random.nextInt(2) : 0;
    }
}
