/** Where the first byte of a file is that can't be there: the document's words, one after another. */
final class Bytes {
    private final int[] bytes;
    private final int end;
    private int at;

    private Bytes(int[] bytes, int end) {
        this.bytes = bytes;
        this.end = end;
    }

    /** The place of FAULT 1, or -1 if there is none. */
    static int wrongPlace(int[] bytes, int end) {
        Bytes it = new Bytes(bytes, end);
        return it.file() ? it.at == end ? -1 : it.at : it.at;
    }

    private boolean fits(int low, int high) {
        if (at < end && bytes[at] >= low && bytes[at] <= high) {
            at++;
            return true;
        }
        return false;
    }

    private int last() {
        return bytes[at - 1];
    }

    private boolean file() {
        if (!fits(70, 70) || !fits(66, 66) || !fits(1, 24)) {
            return false;
        }
        int methods = last();
        for (int m = 0; m < methods; m++) {
            if (!fits(0, 6)) {
                return false;
            }
            int params = last();
            int allTypes = new int[] {0, 1, 3, 7, 15, 31, 63}[params];
            if (!fits(0, allTypes) || !fits(0, 2) || !fits(params, 12)) {
                return false;
            }
            int slots = last();
            if (!fits(1, 120)) {
                return false;
            }
            int count = last();
            if (!fits(0, 6)) {
                return false;
            }
            int handlers = last();
            for (int i = 0; i < count; i++) {
                if (!instruction(methods, slots, count)) {
                    return false;
                }
            }
            for (int h = 0; h < handlers; h++) {
                if (!fits(0, count - 1) || !fits(last() + 1, count - 1) || !fits(last(), count - 1)) {
                    return false;
                }
            }
        }
        return true;
    }

    private boolean instruction(int methods, int slots, int count) {
        if (!fits(0, 36)) {
            return false;
        }
        switch (last()) {
            case 0: return fits(0, 255) && fits(0, 255) && fits(0, 255) && fits(0, 255);
            case 2: case 3: return fits(0, slots - 1);
            case 12: case 13: case 14: case 15: case 16: return fits(0, count - 1);
            case 18: case 19: case 20: case 21: return fits(0, 3);
            case 22: case 27: case 28: return fits(0, methods - 1);
            case 31: return fits(0, 1);
            default: return true;
        }
    }
}
