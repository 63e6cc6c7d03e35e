/** Promises 1 to 8: a new object, and what is done to registers alone. */
public final class RegistersTest {
    private static final Checks checks = new Checks();
    private static final int[] NO_REGISTERS = {-1, 16, Integer.MIN_VALUE, Integer.MAX_VALUE};

    public static void main(String[] args) {
        newObject();
        add();
        clear();
        copy();
        join();
        turn();
        sizeAndAt();
        checks.end("RegistersTest");
    }

    private static void newObject() {
        Sealer x = new Sealer();
        for (int r = 0; r < 16; r++) {
            checks.due("new size " + r, x.size(r), 0);
            checks.due("new at " + r, x.at(r, 0), KeySealer.NONE);
        }
        for (int c = 0; c < 4; c++) {
            for (int what = 0; what <= 6; what++) {
                checks.due("new told " + c + " " + what, x.told(c, what), 0);
            }
        }
        Sealer y = new Sealer();
        x.add(0, 1, 5);
        checks.due("objects are apart", y.size(0), 0);
    }

    private static void add() {
        Sealer x = new Sealer();
        for (int n = 1; n <= 8; n++) {
            x.clear(15);
            checks.due("add " + n, x.add(15, n, 0xf1e2d3c4b5a69788L), n);
            checks.due("added " + n, x.read(15), "f1e2d3c4b5a69788".substring(16 - 2 * n));
        }
        checks.due("add behind", x.add(15, 2, -1), 10);
        checks.due("added behind", x.read(15), "f1e2d3c4b5a69788ffff");
        for (int r : NO_REGISTERS) {
            checks.due("add to " + r, x.add(r, 1, 0), KeySealer.BAD);
        }
        for (int n : new int[] {0, -1, 9, Integer.MIN_VALUE, Integer.MAX_VALUE}) {
            checks.due("add n " + n, x.add(15, n, 0), KeySealer.BAD);
        }
        x.fill(0, Checks.rising(0, 296));
        checks.due("add over", x.add(0, 5, 0), KeySealer.FULL);
        checks.due("nothing added", x.size(0), 296);
        checks.due("add bad before full", x.add(0, 9, 0), KeySealer.BAD);
        checks.due("add to the brim", x.add(0, 4, 7), 300);
        checks.due("add one over", x.add(0, 1, 0), KeySealer.FULL);
        checks.due("last one", x.at(0, 299), 7);
    }

    private static void clear() {
        Sealer x = new Sealer();
        x.fill(3, "0102030405");
        x.fill(4, "09");
        checks.due("clear", x.clear(3), 5);
        checks.due("cleared", x.size(3), 0);
        checks.due("clear again", x.clear(3), 0);
        checks.due("others stay", x.size(4), 1);
        for (int r : NO_REGISTERS) {
            checks.due("clear " + r, x.clear(r), KeySealer.BAD);
        }
    }

    private static void copy() {
        Sealer x = new Sealer();
        x.fill(1, "00112233445566");
        x.fill(2, "ffff");
        checks.due("copy", x.copy(2, 1, 2, 4), 4);
        checks.due("copied", x.read(2), "22334455");
        checks.due("from stays", x.read(1), "00112233445566");
        checks.due("copy whole", x.copy(3, 1, 0, 7), 7);
        checks.due("copied whole", x.read(3), "00112233445566");
        checks.due("copy none at the end", x.copy(2, 1, 7, 0), 0);
        checks.due("copied none", x.size(2), 0);
        checks.due("copy onto itself", x.copy(1, 1, 3, 3), 3);
        checks.due("copied onto itself", x.read(1), "334455");
        int[][] missing = {{0, 4}, {3, 1}, {4, 0}, {-1, 1}, {-1, 0}, {0, -1}, {2, -1}, {Integer.MAX_VALUE, Integer.MAX_VALUE},
            {1, Integer.MAX_VALUE}, {Integer.MAX_VALUE, 1}, {Integer.MIN_VALUE, Integer.MIN_VALUE}};
        for (int[] part : missing) {
            checks.due("copy of " + part[0] + " " + part[1], x.copy(3, 1, part[0], part[1]), KeySealer.BAD);
        }
        for (int r : NO_REGISTERS) {
            checks.due("copy to " + r, x.copy(r, 1, 0, 1), KeySealer.BAD);
            checks.due("copy from " + r, x.copy(3, r, 0, 0), KeySealer.BAD);
        }
        checks.due("refused copies do nothing", x.read(3), "00112233445566");
    }

    private static void join() {
        Sealer x = new Sealer();
        x.fill(1, "0102");
        x.fill(2, "0a0b0c");
        checks.due("join", x.join(1, 2), 5);
        checks.due("joined", x.read(1), "01020a0b0c");
        checks.due("from stays", x.read(2), "0a0b0c");
        checks.due("join itself", x.join(2, 2), 6);
        checks.due("joined itself", x.read(2), "0a0b0c0a0b0c");
        checks.due("join nothing", x.join(2, 9), 6);
        for (int r : NO_REGISTERS) {
            checks.due("join to " + r, x.join(r, 1), KeySealer.BAD);
            checks.due("join from " + r, x.join(1, r), KeySealer.BAD);
        }
        x.fill(3, Checks.rising(0, 150));
        checks.due("join to the brim", x.join(3, 3), 300);
        checks.due("last", x.at(3, 299), 149);
        checks.due("join over", x.join(3, 1), KeySealer.FULL);
        x.fill(4, Checks.rising(0, 151));
        checks.due("join itself over", x.join(4, 4), KeySealer.FULL);
        checks.due("nothing joined", x.size(4), 151);
        checks.due("join nothing to full", x.join(3, 9), 300);
    }

    private static void turn() {
        Sealer x = new Sealer();
        x.fill(6, "00ff80");
        for (int bit = 0; bit < 8; bit++) {
            checks.due("turn up", x.turn(6, 0, bit), (2 << bit) - 1);
            checks.due("turn down", x.turn(6, 1, bit), 255 & ~((2 << bit) - 1));
        }
        checks.due("turn top", x.turn(6, 2, 7), 0);
        checks.due("turn back", x.turn(6, 2, 7), 128);
        checks.due("turned", x.read(6), "ff0080");
        for (int i : new int[] {-1, 3, 300, Integer.MIN_VALUE, Integer.MAX_VALUE}) {
            checks.due("turn byte " + i, x.turn(6, i, 0), KeySealer.BAD);
        }
        for (int bit : new int[] {-1, 8, 32, Integer.MIN_VALUE, Integer.MAX_VALUE}) {
            checks.due("turn bit " + bit, x.turn(6, 0, bit), KeySealer.BAD);
        }
        for (int r : NO_REGISTERS) {
            checks.due("turn in " + r, x.turn(r, 0, 0), KeySealer.BAD);
        }
        checks.due("refused turns do nothing", x.read(6), "ff0080");
        x.clear(6);
        checks.due("turn in a cleared one", x.turn(6, 0, 0), KeySealer.BAD);
    }

    private static void sizeAndAt() {
        Sealer x = new Sealer();
        x.fill(7, "80ff01");
        checks.due("size", x.size(7), 3);
        checks.due("at 0", x.at(7, 0), 128);
        checks.due("at 1", x.at(7, 1), 255);
        checks.due("at 2", x.at(7, 2), 1);
        for (int i : new int[] {-1, 3, 300, Integer.MIN_VALUE, Integer.MAX_VALUE}) {
            checks.due("at " + i, x.at(7, i), KeySealer.NONE);
        }
        for (int r : NO_REGISTERS) {
            checks.due("size of " + r, x.size(r), KeySealer.BAD);
            checks.due("at of " + r, x.at(r, 0), KeySealer.BAD);
            checks.due("at of " + r + ", no place", x.at(r, -1), KeySealer.BAD);
        }
    }
}
