import java.util.ArrayList;
import java.util.Arrays;
import java.util.List;

/** The document's PART 1 and PART 2 once more, written in another way: lists, no bits. */
final class Model {
    static final String UNSET = "-";

    /** The types on the stack and in the slots ahead of a reached instruction. */
    static final class State {
        final List<String> stack;
        final String[] slots;

        State(List<String> stack, String[] slots) {
            this.stack = stack;
            this.slots = slots;
        }
    }

    final Code[] codes;
    final State[][] states;
    final boolean[][][] live;
    final boolean[] suspendable;
    final List<List<int[]>> rows = new ArrayList<>();
    final int[] sites;
    /** Where the rows of each instruction begin, and the instruction of each such row. */
    final int[][] begins;
    final List<List<Integer>> owners = new ArrayList<>();
    int fault;
    int faultMethod = -1;
    int faultInstruction = -1;
    private boolean changed;

    Model(Code... codes) {
        this.codes = codes;
        states = new State[codes.length][];
        live = new boolean[codes.length][][];
        suspendable = new boolean[codes.length];
        sites = new int[codes.length];
        begins = new int[codes.length][];
        for (int m = 0; m < codes.length; m++) {
            states[m] = new State[codes[m].list.size()];
        }
        for (int m = 0; m < codes.length && fault == 0; m++) {
            checkTypes(m);
        }
        for (int m = 0; m < codes.length && fault == 0; m++) {
            for (int i = 0; i < states[m].length; i++) {
                suspendable[m] |= states[m][i] != null && (op(m, i) >= Code.YIELD || spends(m, i));
            }
        }
        for (int m = 0; m < codes.length && fault == 0; m++) {
            for (int i = 0; i < states[m].length && fault == 0; i++) {
                if (hasEachAt(m, i)) {
                    checkEach(m, i, told(m, i));
                }
            }
        }
        for (int m = 0; m < codes.length && fault == 0; m++) {
            findLives(m);
            rows.add(new ArrayList<>());
            owners.add(new ArrayList<>());
        }
        for (int m = 0; m < codes.length && fault == 0; m++) {
            rewrite(m);
        }
    }

    int op(int m, int i) {
        return codes[m].list.get(i)[0];
    }

    int told(int m, int i) {
        return codes[m].list.get(i)[1];
    }

    boolean jumps(int m, int i) {
        return op(m, i) >= Code.JUMP && op(m, i) <= Code.JSAME;
    }

    boolean spends(int m, int i) {
        return states[m][i] != null && (op(m, i) == Code.CALL || jumps(m, i) && told(m, i) <= i);
    }

    private boolean hasEachAt(int m, int i) {
        return states[m][i] != null && op(m, i) == Code.EACH;
    }

    private void checkEach(int m, int i, int callee) {
        Code its = codes[callee];
        boolean nested = false;
        for (int k = 0; k < states[callee].length; k++) {
            nested |= hasEachAt(callee, k);
        }
        if (its.params != 1 || its.types != 0 || its.result != 0 || suspendable[callee] || nested) {
            refuse(7, m, i);
        }
    }

    private void refuse(int kind, int m, int i) {
        if (fault == 0) {
            fault = kind;
            faultMethod = m;
            faultInstruction = i;
        }
    }

    private String typeOf(Code code, int param) {
        return (code.types >> param & 1) == 1 ? "R" : "N";
    }

    /** "N R . N": what an op takes, from below, and what it gives. */
    private String shape(int m, int i) {
        switch (op(m, i)) {
            case Code.PUSH: return ". N";
            case Code.NONE: case Code.NEW: case Code.SELF: return ". R";
            case Code.ADD: case Code.SUB: case Code.MUL: case Code.DIV: case Code.REM: return "N N . N";
            case Code.JZERO: case Code.RAISE: case Code.OUT: case Code.EACH: case Code.SLEEP: return "N .";
            case Code.JLESS: return "N N .";
            case Code.JNONE: case Code.KILL: case Code.FREE: case Code.WAKE: return "R .";
            case Code.LOCK: case Code.WAIT: return "R .";
            case Code.JSAME: case Code.KEEP: return "R R .";
            case Code.GET: case Code.JOIN: return "R . N";
            case Code.PUT: return "R N .";
            case Code.FETCH: return "R . R";
            case Code.RETURN: return codes[m].result == 0 ? "." : codes[m].result == 1 ? "N ." : "R .";
            case Code.CALL: case Code.SPAWN:
                Code callee = codes[told(m, i)];
                StringBuilder text = new StringBuilder();
                for (int k = 0; k < callee.params; k++) {
                    text.append(typeOf(callee, k)).append(' ');
                }
                int gives = op(m, i) == Code.SPAWN ? 2 : callee.result;
                return text.append(gives == 0 ? "." : gives == 1 ? ". N" : ". R").toString();
            default: return ".";
        }
    }

    private void checkTypes(int m) {
        String[] first = new String[codes[m].slots];
        Arrays.fill(first, UNSET);
        for (int k = 0; k < codes[m].params; k++) {
            first[k] = typeOf(codes[m], k);
        }
        states[m][0] = new State(new ArrayList<>(), first);
        changed = true;
        while (changed && fault == 0) {
            changed = false;
            for (int i = 0; i < states[m].length && fault == 0; i++) {
                if (states[m][i] != null) {
                    look(m, i);
                }
            }
        }
    }

    private void look(int m, int i) {
        State ahead = states[m][i];
        String[] slotsAhead = ahead.slots.clone();
        List<String> stack = new ArrayList<>(ahead.stack);
        String[] slots = ahead.slots.clone();
        int op = op(m, i);
        int any = op == Code.STORE || op == Code.DROP || op == Code.COPY ? 1 : op == Code.SWAP ? 2 : 0;
        String[] halves = shape(m, i).split("\\.", -1);
        String[] takes = halves[0].isBlank() ? new String[0] : halves[0].trim().split(" ");
        if (stack.size() < Math.max(any, takes.length)) {
            refuse(2, m, i);
            return;
        }
        for (int k = takes.length - 1; k >= 0; k--) {
            if (!stack.remove(stack.size() - 1).equals(takes[k])) {
                refuse(3, m, i);
                return;
            }
        }
        if (op == Code.LOAD) {
            if (slots[told(m, i)].equals(UNSET)) {
                refuse(3, m, i);
                return;
            }
            stack.add(slots[told(m, i)]);
        } else if (op == Code.STORE) {
            slots[told(m, i)] = stack.remove(stack.size() - 1);
        } else if (op == Code.DROP) {
            stack.remove(stack.size() - 1);
        } else if (op == Code.COPY) {
            stack.add(stack.get(stack.size() - 1));
        } else if (op == Code.SWAP) {
            stack.add(stack.remove(stack.size() - 2));
        } else if (!halves[1].isBlank()) {
            stack.add(halves[1].trim());
        }
        if (stack.size() > 12) {
            refuse(4, m, i);
            return;
        }
        leadOn(m, i, stack, slots, slotsAhead);
    }

    private void leadOn(int m, int i, List<String> stack, String[] slots, String[] slotsAhead) {
        for (int[] h : codes[m].handlers) {
            if (h[0] <= i && i < h[1]) {
                reach(m, i, h[2], List.of("N"), slotsAhead);
            }
        }
        int op = op(m, i);
        if (op != Code.JUMP && op != Code.RETURN && op != Code.RAISE && fault == 0) {
            if (i + 1 == states[m].length) {
                refuse(6, m, i);
            } else {
                reach(m, i, i + 1, stack, slots);
            }
        }
        if (jumps(m, i)) {
            reach(m, i, told(m, i), stack, slots);
        }
    }

    private void reach(int m, int by, int target, List<String> stack, String[] slots) {
        if (fault != 0) {
            return;
        }
        State there = states[m][target];
        if (there == null) {
            states[m][target] = new State(new ArrayList<>(stack), slots.clone());
            changed = true;
            return;
        }
        if (!there.stack.equals(stack)) {
            refuse(5, m, by);
            return;
        }
        for (int v = 0; v < slots.length; v++) {
            if (!there.slots[v].equals(slots[v]) && !there.slots[v].equals(UNSET)) {
                there.slots[v] = UNSET;
                changed = true;
            }
        }
    }

    /** From each LOAD back along every way that leads to it. */
    private void findLives(int m) {
        int count = states[m].length;
        live[m] = new boolean[count][codes[m].slots];
        for (int v = 0; v < codes[m].slots; v++) {
            boolean more = true;
            while (more) {
                more = false;
                for (int i = 0; i < count; i++) {
                    if (!live[m][i][v] && states[m][i] != null && livesThere(m, i, v)) {
                        live[m][i][v] = true;
                        more = true;
                    }
                }
            }
        }
    }

    private boolean livesThere(int m, int i, int v) {
        int op = op(m, i);
        if (op == Code.LOAD && told(m, i) == v) {
            return true;
        }
        for (int[] h : codes[m].handlers) {
            if (h[0] <= i && i < h[1] && live[m][h[2]][v]) {
                return true;
            }
        }
        if (op == Code.STORE && told(m, i) == v) {
            return false;
        }
        boolean next = op != Code.JUMP && op != Code.RETURN && op != Code.RAISE;
        return next && live[m][i + 1][v] || jumps(m, i) && live[m][told(m, i)][v];
    }

    boolean leaves(int m, int i) {
        if (states[m][i] == null) {
            return false;
        }
        return op(m, i) >= Code.YIELD || op(m, i) == Code.CALL && suspendable[told(m, i)];
    }

    private void rewrite(int m) {
        List<int[]> all = rows.get(m);
        int count = states[m].length;
        begins[m] = new int[count];
        List<int[]> found = new ArrayList<>();
        if (suspendable[m]) {
            all.add(new int[] {40, 0});
        }
        for (int i = 0; i < count; i++) {
            begins[m][i] = all.size();
            if (suspendable[m] && spends(m, i)) {
                found.add(new int[] {all.size(), i, 0});
                all.add(new int[] {41, 0});
                all.add(new int[] {42, found.size() - 1});
            }
            boolean leaves = suspendable[m] && leaves(m, i);
            if (leaves) {
                found.add(new int[] {all.size(), i, op(m, i) == Code.CALL ? 1 : 0});
            }
            all.add(new int[] {op(m, i), told(m, i)});
            if (leaves) {
                all.add(new int[] {42, found.size() - 1});
            }
            while (owners.get(m).size() < all.size()) {
                owners.get(m).add(i);
            }
        }
        int code = all.size();
        int[] away = new int[found.size()];
        for (int s = 0; s < found.size(); s++) {
            away[s] = all.size();
            addSite(m, s, found.get(s));
        }
        for (int r = 0; r < code; r++) {
            int[] row = all.get(r);
            if (row[0] == 42) {
                row[1] = away[row[1]];
            } else if (row[0] >= Code.JUMP && row[0] <= Code.JSAME) {
                row[1] = begins[m][row[1]];
            }
        }
        sites[m] = found.size();
    }

    private int kind(String type) {
        return type.equals("R") ? 1 : 0;
    }

    private void addSite(int m, int s, int[] site) {
        List<int[]> all = rows.get(m);
        int i = site[1];
        List<String> stack = states[m][i].stack;
        List<String> params = List.of();
        if (site[2] == 1) {
            int keep = stack.size() - codes[told(m, i)].params;
            params = stack.subList(keep, stack.size());
            stack = stack.subList(0, keep);
        }
        for (int k = stack.size() - 1; k >= 0; k--) {
            all.add(new int[] {43, kind(stack.get(k))});
        }
        for (int v = 0; v < codes[m].slots; v++) {
            if (live[m][i][v]) {
                all.add(new int[] {2, v});
                all.add(new int[] {43, kind(states[m][i].slots[v])});
            }
        }
        all.add(new int[] {44, s});
        for (int v = codes[m].slots - 1; v >= 0; v--) {
            if (live[m][i][v]) {
                all.add(new int[] {45, kind(states[m][i].slots[v])});
                all.add(new int[] {3, v});
            }
        }
        for (String type : stack) {
            all.add(new int[] {45, kind(type)});
        }
        for (String type : params) {
            all.add(new int[] {kind(type), 0});
        }
        all.add(new int[] {12, site[0]});
    }
}
