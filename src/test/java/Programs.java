import java.util.ArrayList;
import java.util.List;
import java.util.Random;

/** Makes files by chance that mostly keep to the rules of types, and use every op. */
final class Programs {
    private final Random random;
    private Code[] codes;
    private int[][] slotTypes;
    private Code code;
    private int[] types;
    private int self;
    private int depth;
    private boolean plain;

    Programs(Random random) {
        this.random = random;
    }

    private boolean chance(int percent) {
        return random.nextInt(100) < percent;
    }

    Code[] make() {
        int count = 2 + random.nextInt(5);
        codes = new Code[count];
        slotTypes = new int[count][];
        for (int m = 0; m < count; m++) {
            boolean each = m == count - 1;
            int params = m == 0 ? 0 : each ? 1 : random.nextInt(4);
            int bits = each ? 0 : random.nextInt(1 << params);
            int slots = Math.min(12, params + 2 + random.nextInt(6));
            codes[m] = new Code(params, bits, each ? 0 : random.nextInt(3), slots);
            slotTypes[m] = new int[slots];
            for (int v = 0; v < slots; v++) {
                boolean ref = v < params ? (bits >> v & 1) == 1 : v == params || v > params + 1 && chance(40);
                slotTypes[m][v] = ref ? 2 : 1;
            }
        }
        for (int m = 0; m < count; m++) {
            write(m);
        }
        return codes;
    }

    /** A crowd of fibers around two locks that kill, join and wake one another. */
    Code[] makeCrowd() {
        int kinds = 1 + random.nextInt(3);
        codes = new Code[kinds + 1];
        Code main = new Code(0, 0, 1, 10);
        codes[0] = main;
        main.op(Code.NEW).with(Code.STORE, 0).op(Code.NEW).with(Code.STORE, 1);
        int workers = 3 + random.nextInt(6);
        for (int k = 0; k < workers; k++) {
            main.with(Code.LOAD, 0).with(Code.LOAD, 1).with(Code.SPAWN, 1 + random.nextInt(kinds));
            main.with(Code.STORE, 2 + k);
            if (k < 4) {
                main.with(Code.LOAD, 0).with(Code.LOAD, 2 + k).with(Code.KEEP, k);
            }
        }
        int from = main.here();
        for (int k = 0; k < 4 + random.nextInt(8); k++) {
            crowdStep(main, 2, 2 + random.nextInt(workers));
        }
        if (chance(30)) {
            main.with(Code.JUMP, from);
        } else {
            main.push(5).op(Code.RETURN);
        }
        for (int m = 1; m <= kinds; m++) {
            crowdWorker(m);
        }
        return codes;
    }

    private void crowdWorker(int m) {
        Code one = new Code(2, 3, random.nextInt(2), 4);
        codes[m] = one;
        one.push(1 + random.nextInt(3)).with(Code.STORE, 2);
        int begin = one.here();
        int many = 2 + random.nextInt(6);
        for (int k = 0; k < many; k++) {
            int from = one.here();
            crowdStep(one, 2, -1);
            if (chance(35) && one.handlers.size() < 6) {
                int over = one.here();
                one.with(Code.JUMP, 0).handler(from, over, one.here()).op(chance(50) ? Code.OUT : Code.DROP);
                if (chance(50)) {
                    crowdStep(one, 2, -1);
                }
                one.patch(over, one.here());
            }
        }
        one.with(Code.LOAD, 2).push(1).op(Code.SUB, Code.COPY).with(Code.STORE, 2);
        one.push(0).op(Code.SWAP).with(Code.JLESS, begin);
        if (one.result == 1) {
            one.with(Code.LOAD, 2);
        }
        one.op(Code.RETURN);
    }

    private void crowdStep(Code one, int locks, int worker) {
        int lock = random.nextInt(locks);
        switch (random.nextInt(9)) {
            case 0: case 1: case 2:
                one.with(Code.LOAD, lock).op(Code.LOCK);
                if (chance(30)) {
                    one.with(Code.LOAD, lock).op(Code.LOCK);
                }
                if (chance(50)) {
                    one.with(Code.LOAD, lock).op(Code.WAIT);
                }
                if (chance(40)) {
                    one.with(Code.LOAD, lock).with(Code.WAKE, random.nextInt(2));
                }
                if (chance(40)) {
                    one.op(Code.YIELD);
                }
                if (chance(75)) {
                    one.with(Code.LOAD, lock).op(Code.FREE);
                }
                break;
            case 3:
                one.op(Code.YIELD);
                break;
            case 4:
                one.push(random.nextInt(4)).op(Code.SLEEP);
                break;
            case 5:
                another(one, worker);
                one.op(Code.KILL);
                break;
            case 6:
                another(one, worker);
                one.op(Code.JOIN, Code.OUT);
                break;
            case 7:
                one.with(Code.LOAD, lock).op(Code.LOCK).with(Code.LOAD, lock).with(Code.WAKE, 1);
                one.with(Code.LOAD, lock).op(Code.FREE);
                break;
            default:
                one.out(random.nextInt(9));
                break;
        }
    }

    private void another(Code one, int worker) {
        if (worker >= 0) {
            one.with(Code.LOAD, worker);
        } else {
            one.with(Code.LOAD, 0).with(Code.FETCH, random.nextInt(4));
        }
    }

    private void write(int m) {
        self = m;
        code = codes[m];
        types = slotTypes[m];
        plain = m == codes.length - 1;
        depth = 0;
        for (int v = code.params; v < code.slots; v++) {
            if (types[v] == 1) {
                code.push(random.nextInt(4));
            } else if (chance(85)) {
                code.op(chance(50) ? Code.NEW : Code.SELF);
            } else {
                code.op(Code.NONE);
            }
            code.with(Code.STORE, v);
        }
        int many = plain ? 1 + random.nextInt(3) : 2 + random.nextInt(7);
        for (int k = 0; k < many && code.here() < 85; k++) {
            statement();
        }
        if (code.result == 1) {
            number(1);
        } else if (code.result == 2) {
            reference(1);
        }
        code.op(Code.RETURN);
    }

    private int slot(int type) {
        List<Integer> fit = new ArrayList<>();
        for (int v = 0; v < types.length; v++) {
            if (types[v] == type) {
                fit.add(v);
            }
        }
        return fit.isEmpty() ? -1 : fit.get(random.nextInt(fit.size()));
    }

    private void value(int type, int deep) {
        if (type == 1) {
            number(deep);
        } else {
            reference(deep);
        }
    }

    private boolean call(int op, int result, int deep) {
        int callee = random.nextInt(codes.length);
        if (plain || op == Code.CALL && codes[callee].result != result || callee == self && chance(70)) {
            return false;
        }
        for (int k = 0; k < codes[callee].params; k++) {
            value((codes[callee].types >> k & 1) + 1, deep - 1);
        }
        code.with(op, callee);
        return true;
    }

    private void number(int deep) {
        int kind = deep <= 0 ? random.nextInt(2) : random.nextInt(8);
        if (kind == 0 || slot(1) < 0) {
            code.push(chance(10) ? random.nextInt() : random.nextInt(6) - 1);
        } else if (kind == 1 || kind == 2) {
            code.with(Code.LOAD, slot(1));
        } else if (kind == 3 || kind == 4) {
            number(deep - 1);
            number(deep - 1);
            code.op(Code.ADD + random.nextInt(chance(20) ? 5 : 3));
        } else if (kind == 5) {
            reference(deep - 1);
            code.with(Code.GET, random.nextInt(4));
        } else if (kind == 6 && !plain && chance(40)) {
            reference(deep - 1);
            code.op(Code.JOIN);
        } else if (!call(Code.CALL, 1, deep)) {
            code.with(Code.LOAD, slot(1));
        }
    }

    private void reference(int deep) {
        int kind = deep <= 0 ? random.nextInt(4) : random.nextInt(9);
        if (kind <= 2 && slot(2) >= 0) {
            code.with(Code.LOAD, slot(2));
        } else if (kind == 3 || slot(2) < 0) {
            code.op(chance(80) ? Code.SELF : chance(60) ? Code.NEW : Code.NONE);
        } else if (kind == 4) {
            reference(deep - 1);
            code.with(Code.FETCH, random.nextInt(4));
        } else if (kind <= 6) {
            if (!call(Code.SPAWN, 2, deep)) {
                code.op(Code.SELF);
            }
        } else if (kind == 7 || !call(Code.CALL, 2, deep)) {
            code.with(Code.LOAD, slot(2));
        }
    }

    private void statement() {
        depth++;
        switch (random.nextInt(plain ? 6 : 20)) {
            case 0: case 1:
                number(2);
                code.op(Code.OUT);
                break;
            case 2:
                int type = 1 + random.nextInt(2);
                if (slot(type) >= 0) {
                    value(type, 2);
                    code.with(Code.STORE, slot(type));
                }
                break;
            case 3:
                reference(1);
                if (chance(50)) {
                    number(1);
                    code.with(Code.PUT, random.nextInt(4));
                } else {
                    reference(1);
                    code.with(Code.KEEP, random.nextInt(4));
                }
                break;
            case 4:
                branch();
                break;
            case 5:
                if (chance(25) && depth > 1) {
                    number(1);
                    code.op(Code.RAISE);
                    code.op(Code.YIELD);
                } else {
                    number(1);
                    number(1);
                    code.op(Code.COPY, Code.SWAP, Code.DROP, Code.DROP, Code.DROP);
                }
                break;
            case 6: case 7: case 8:
                loop();
                break;
            case 9: case 10: case 11:
                locked();
                break;
            case 12: case 13:
                guarded();
                break;
            case 14:
                code.op(Code.YIELD);
                break;
            case 15:
                code.push(random.nextInt(5)).op(Code.SLEEP);
                break;
            case 16:
                reference(1);
                code.op(Code.KILL);
                break;
            case 17:
                number(1);
                code.with(Code.EACH, codes.length - 1);
                break;
            case 18:
                call(Code.CALL, 0, 2);
                break;
            default:
                if (call(Code.SPAWN, 2, 2)) {
                    if (chance(30)) {
                        code.op(Code.JOIN, Code.OUT);
                    } else {
                        code.op(Code.DROP);
                    }
                }
                break;
        }
        depth--;
    }

    private void some(int most) {
        int many = 1 + random.nextInt(most);
        for (int k = 0; k < many && depth < 5 && code.here() < 95; k++) {
            statement();
        }
    }

    private void branch() {
        int kind = Code.JZERO + random.nextInt(4);
        if (kind == Code.JZERO || kind == Code.JLESS) {
            number(1);
        } else {
            reference(1);
        }
        if (kind == Code.JLESS) {
            number(1);
        } else if (kind == Code.JSAME) {
            reference(1);
        }
        int jump = code.here();
        code.with(kind, 0);
        some(2);
        code.patch(jump, code.here());
    }

    private void loop() {
        int v = slot(1);
        if (v < 0) {
            return;
        }
        code.push(1 + random.nextInt(4)).with(Code.STORE, v);
        int begin = code.here();
        some(2);
        code.with(Code.LOAD, v).push(1).op(Code.SUB, Code.COPY).with(Code.STORE, v);
        if (chance(50)) {
            code.push(0).op(Code.SWAP).with(Code.JLESS, begin);
        } else {
            int jump = code.here();
            code.with(Code.JZERO, 0).with(Code.JUMP, begin);
            code.patch(jump, code.here());
        }
    }

    private void locked() {
        int v = slot(2);
        if (v < 0) {
            return;
        }
        code.with(Code.LOAD, v).op(Code.LOCK);
        if (chance(30)) {
            code.with(Code.LOAD, v).op(Code.LOCK);
        }
        if (chance(40)) {
            code.with(Code.LOAD, v).with(Code.WAKE, random.nextInt(2));
        }
        if (chance(60)) {
            some(2);
        }
        if (chance(45)) {
            code.with(Code.LOAD, v).op(Code.WAIT);
        }
        if (chance(40)) {
            code.with(Code.LOAD, v).with(Code.WAKE, random.nextInt(2));
        }
        if (chance(85)) {
            code.with(Code.LOAD, v).op(Code.FREE);
        }
    }

    private void guarded() {
        int from = code.here();
        some(3);
        int to = code.here();
        if (to == from) {
            return;
        }
        int jump = code.here();
        code.with(Code.JUMP, 0);
        if (code.handlers.size() < 6) {
            code.handler(from, to, code.here());
        } else {
            code.push(1);
        }
        if (chance(40)) {
            code.op(Code.OUT);
        } else if (slot(1) >= 0) {
            code.with(Code.STORE, slot(1));
        } else {
            code.op(Code.DROP);
        }
        some(1);
        code.patch(jump, code.here());
    }
}
