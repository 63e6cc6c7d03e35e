import java.util.Random;

/** All promises: random runs of at most 512 calls, the same on the class and on the model. */
public final class ModelTest {
    private static final int RUNS = 500;
    private static final int STEPS = 48;
    private static final int CALLS = 512;
    /** The most calls of one step with its looks, and those of the last look at all registers. */
    private static final int STEP_CALLS = 12, LAST_CALLS = 96;
    private static final Checks checks = new Checks();

    private final Random random;
    private final int run;
    private final KeySealer x = new KeySealer();
    private final Model m = new Model();
    private int calls = 0;

    private ModelTest(int run) {
        this.run = run;
        this.random = new Random(run);
    }

    public static void main(String[] args) {
        for (int run = 0; run < RUNS; run++) {
            new ModelTest(run).go();
        }
        checks.end("ModelTest");
    }

    private void go() {
        prepare();
        for (int i = 0; i < STEPS && calls <= CALLS - STEP_CALLS - LAST_CALLS; i++) {
            if (random.nextInt(3) == 0) {
                wildCall();
            } else {
                likelyCall();
            }
            look(random.nextInt(16));
            look(random.nextInt(16));
        }
        for (int r = 0; r < 16; r++) {
            fingerprint(r);
        }
        checks.due("run " + run + " stays within the calls that are promised", calls <= CALLS ? 1 : 0, 1);
    }

    /** Every call on the class comes by here, once. */
    private void due(String call, long got, long want) {
        calls++;
        checks.due("run " + run + ": " + call, got, want);
    }

    /** Keys in 0 .. 5, a nonce in 6, a short key in 7, texts in 8 .. 10. */
    private void prepare() {
        int[] sizes = {32, 32, 32, 32, 32, 32, 12, 16, random.nextInt(60), random.nextInt(60), 288};
        for (int r = 0; r < sizes.length; r++) {
            for (int have = 0; have < sizes[r]; have += 8) {
                add(r, Math.min(8, sizes[r] - have), random.nextLong());
            }
        }
        due("open", x.open(1, 0), m.open(1, 0));
        due("open", x.open(3, 2), m.open(3, 2));
        due("open", x.open(5, 4), m.open(5, 4));
        use(3, 4);
        use(4, 5);
    }

    private void add(int r, int n, long w) {
        due("add " + r + " " + n + " " + w, x.add(r, n, w), m.add(r, n, w));
    }

    private void use(int what, int r) {
        due("use " + what + " " + r, x.use(what, r), m.use(what, r));
    }

    private void look(int r) {
        due("size " + r, x.size(r), m.size(r));
        int i = random.nextInt(m.registers[r].length + 2) - 1;
        due("at " + r + " " + i, x.at(r, i), m.at(r, i));
    }

    private void fingerprint(int r) {
        due("last size " + r, x.size(r), m.size(r));
        due("last hash " + r, x.hash(1, r, r), m.hash(1, r, r));
        for (int i = 0; i < 4; i++) {
            due("last at " + r + " " + i, x.at(r, i), m.at(r, i));
        }
    }

    private int row() {
        return random.nextInt(40) == 0 ? random.nextInt(20) - 2 : random.nextInt(16);
    }

    private int keyRow() {
        return random.nextInt(10) == 0 ? row() : random.nextInt(6);
    }

    private int out() {
        return random.nextInt(8) == 0 ? row() : 11 + random.nextInt(5);
    }

    private int kind() {
        return random.nextInt(30) == 0 ? random.nextInt(6) - 1 : random.nextBoolean() ? 1 : 3;
    }

    private int cipher() {
        int[] ciphers = {1, 2, 3, 1, 2, 3, 1, 2, 3, 255, 0, 4};
        return ciphers[random.nextInt(ciphers.length)];
    }

    private int context() {
        return random.nextInt(30) == 0 ? random.nextInt(7) - 2 : random.nextInt(4);
    }

    private int length() {
        int[] lengths = {0, 1, 31, 32, 33, 63, 64, 65, 128, 299, 300, 301, -1, Integer.MAX_VALUE, Integer.MIN_VALUE};
        return random.nextInt(3) == 0 ? lengths[random.nextInt(lengths.length)] : random.nextInt(301);
    }

    /** Whatever the call, its name and numbers stand in the text. */
    private static String told(String name, int... numbers) {
        StringBuilder all = new StringBuilder(name);
        for (int n : numbers) {
            all.append(' ').append(n);
        }
        return all.toString();
    }

    private void likelyCall() {
        switch (random.nextInt(8)) {
            case 0: case 1: talk(); break;
            case 2: lockAndUnlock(); break;
            case 3: begin(context(), out()); break;
            case 4: sealSome(); break;
            case 5: shareKey(); break;
            case 6: exportSome(); break;
            default: derive(); break;
        }
    }

    private void derive() {
        int k = kind(), to = out(), key = row(), from = row(), n = length();
        switch (random.nextInt(6)) {
            case 0: due(told("hash", k, to, from), x.hash(k, to, from), m.hash(k, to, from)); break;
            case 1: due(told("mac", k, to, key, from), x.mac(k, to, key, from), m.mac(k, to, key, from)); break;
            case 2: due(told("expand", k, to, key, from, n), x.expand(k, to, key, from, n), m.expand(k, to, key, from, n)); break;
            case 3: key = keyRow(); from = keyRow();
                due(told("agree", to, key, from), x.agree(to, key, from), m.agree(to, key, from)); break;
            case 4: due(told("open", to, key), x.open(to, key), m.open(to, key)); break;
            default: due(told("pair", to, key, from), x.pair(to, key, from), m.pair(to, key, from)); break;
        }
    }

    private void lockAndUnlock() {
        int c = cipher(), key = c == 1 ? 7 : keyRow(), aad = row(), from = row(), to = out(), back = out();
        due(told("lock", c, to, key, 6, aad, from), x.lock(c, to, key, 6, aad, from), m.lock(c, to, key, 6, aad, from));
        if (random.nextInt(4) == 0) {
            int i = random.nextInt(40), bit = random.nextInt(8);
            due(told("turn", to, i, bit), x.turn(to, i, bit), m.turn(to, i, bit));
        }
        due(told("unlock", c, back, key, 6, aad, to), x.unlock(c, back, key, 6, aad, to), m.unlock(c, back, key, 6, aad, to));
    }

    private void shareKey() {
        boolean with = random.nextBoolean();
        use(1, with ? 8 : KeySealer.NONE);
        use(2, with ? 9 : KeySealer.NONE);
        use(random.nextInt(7) - 1, random.nextInt(3) == 0 ? KeySealer.NONE : row());
        use(3, 4);
        use(4, 5);
    }

    private void begin(int c, int to) {
        int mode = random.nextInt(4), k = kind(), n = cipher(), key = keyRow(), other = keyRow();
        if (random.nextBoolean()) {
            due(told("sender", c, mode, k, n, to, key, other), x.sender(c, mode, k, n, to, key, other), m.sender(c, mode, k, n, to, key, other));
        } else {
            due(told("receiver", c, mode, k, n, other, key), x.receiver(c, mode, k, n, other, key), m.receiver(c, mode, k, n, other, key));
        }
        tell(c);
    }

    private void tell(int c) {
        int what = random.nextInt(9) - 1, to = out();
        due(told("told", c, what), x.told(c, what), m.told(c, what));
        due(told("secret", c, what, to), x.secret(c, what, to), m.secret(c, what, to));
    }

    /** A sender in 0 and a receiver in 1 that understand one another. */
    private void talk() {
        int mode = random.nextInt(4), k = kind(), n = cipher(), aad = row(), from = 8 + random.nextInt(2);
        boolean with = (mode & 1) == 1;
        use(1, with ? 8 : KeySealer.NONE);
        use(2, with ? 9 : KeySealer.NONE);
        due(told("sender", 0, mode, k, n, 11, 0, 3), x.sender(0, mode, k, n, 11, 0, 3), m.sender(0, mode, k, n, 11, 0, 3));
        due(told("receiver", 1, mode, k, n, 11, 2), x.receiver(1, mode, k, n, 11, 2), m.receiver(1, mode, k, n, 11, 2));
        due(told("seal", 0, 12, aad, from), x.seal(0, 12, aad, from), m.seal(0, 12, aad, from));
        due(told("unseal", 1, 13, aad, 12), x.unseal(1, 13, aad, 12), m.unseal(1, 13, aad, 12));
    }

    private void sealSome() {
        int c = context(), aad = row(), from = row(), to = out();
        if (random.nextInt(3) == 0) {
            int high = random.nextInt(3) - 1, middle = random.nextInt(3) - 1, low = random.nextInt(5) - 3;
            due(told("sequence", c, high, middle, low), x.sequence(c, high, middle, low), m.sequence(c, high, middle, low));
        }
        due(told("seal", c, to, aad, from), x.seal(c, to, aad, from), m.seal(c, to, aad, from));
        due(told("unseal", c, to, aad, from), x.unseal(c, to, aad, from), m.unseal(c, to, aad, from));
        tell(c);
    }

    private void exportSome() {
        int c = context(), to = out(), info = row(), n = length();
        due(told("export", c, to, info, n), x.export(c, to, info, n), m.export(c, to, info, n));
    }

    private int wild() {
        int[] numbers = {-1, 0, 1, 2, 3, 4, 5, 12, 15, 16, 255, 300, 301, Integer.MAX_VALUE, Integer.MIN_VALUE};
        return random.nextInt(4) == 0 ? numbers[random.nextInt(numbers.length)] : random.nextInt(16);
    }

    private void wildCall() {
        int a = wild(), b = wild(), c = wild(), d = wild(), e = wild(), f = wild(), g = wild();
        long w = random.nextLong();
        switch (random.nextInt(18)) {
            case 0: due(told("add", a, b), x.add(a, b, w), m.add(a, b, w)); break;
            case 1: due(told("clear", a), x.clear(a), m.clear(a)); break;
            case 2: due(told("copy", a, b, c, d), x.copy(a, b, c, d), m.copy(a, b, c, d)); break;
            case 3: due(told("join", a, b), x.join(a, b), m.join(a, b)); break;
            case 4: due(told("turn", a, b, c), x.turn(a, b, c), m.turn(a, b, c)); break;
            case 5: due(told("at", a, b), x.at(a, b), m.at(a, b)); break;
            case 6: due(told("hash", a, b, c), x.hash(a, b, c), m.hash(a, b, c)); break;
            case 7: due(told("mac", a, b, c, d), x.mac(a, b, c, d), m.mac(a, b, c, d)); break;
            case 8: due(told("expand", a, b, c, d, e), x.expand(a, b, c, d, e), m.expand(a, b, c, d, e)); break;
            case 9: due(told("agree", a, b, c), x.agree(a, b, c), m.agree(a, b, c)); break;
            case 10: due(told("lock", a, b, c, d, e, f), x.lock(a, b, c, d, e, f), m.lock(a, b, c, d, e, f)); break;
            case 11: due(told("unlock", a, b, c, d, e, f), x.unlock(a, b, c, d, e, f), m.unlock(a, b, c, d, e, f)); break;
            case 12: due(told("use", a, b), x.use(a, b), m.use(a, b)); break;
            case 13: due(told("sender", a, b, c, d, e, f, g), x.sender(a, b, c, d, e, f, g), m.sender(a, b, c, d, e, f, g)); break;
            case 14: due(told("receiver", a, b, c, d, e, f), x.receiver(a, b, c, d, e, f), m.receiver(a, b, c, d, e, f)); break;
            case 15: due(told("export", a, b, c, d), x.export(a, b, c, d), m.export(a, b, c, d)); break;
            case 16: due(told("sequence", a, b, c, d), x.sequence(a, b, c, d), m.sequence(a, b, c, d)); break;
            default: due(told("secret", a, b, c), x.secret(a, b, c), m.secret(a, b, c)); break;
        }
    }
}
