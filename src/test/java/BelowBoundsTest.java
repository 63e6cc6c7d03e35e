import java.math.BigInteger;

/** Promises 9 to 14 at their bounds: one method a sentence, which stands above it. */
public final class BelowBoundsTest {
    private static final Checks checks = new Checks();
    private static final Refusals refusals = new Refusals(checks, Desk::contexts);
    private static final BigInteger P = BigInteger.ONE.shiftLeft(255).subtract(BigInteger.valueOf(19));
    /** Registers that have not 32 bytes: none, 31, 33, all. */
    private static final int[] NO_KEYS = {-1, 16, Integer.MIN_VALUE, Integer.MAX_VALUE, Desk.EMPTY, Desk.BYTES_31, Desk.BYTES_33, Desk.FULL};

    public static void main(String[] args) {
        hashKinds();
        hashPads();
        macKinds();
        macKeyIsHashedIfLonger();
        macKeyGetsZeros();
        expandKinds();
        expandLengths();
        expandInputs();
        agreeRefusals();
        agreeZeros();
        agreeBesideZeros();
        agreeKeyBits();
        agreeOtherBits();
        agreeBeyondTheModulus();
        open();
        pair();
        checks.end("BelowBoundsTest");
    }

    private static String digest(int kind, String message) {
        return Checks.hex(Model.digest(kind, Checks.bytes(message)));
    }

    // ---- 9: "HASH of a KIND (1, 3): SIZE. BAD: registers, KIND."

    private static void hashKinds() {
        for (int kind = 1; kind <= 3; kind += 2) {
            int one = kind;
            for (int to : new int[] {0, 15, Desk.FULL}) {
                Desk desk = Desk.registers();
                checks.due("hash " + kind + " to " + to, desk.call(x -> x.hash(one, to, Desk.INFO)), kind == 1 ? 32 : 64);
                checks.due("hashed", desk.read(to), digest(kind, "a1a2a3"));
                checks.due("hash " + kind + " from " + to, desk.call(x -> x.hash(one, Desk.NAME, to)), kind == 1 ? 32 : 64);
                checks.due("hashed again", desk.read(Desk.NAME), digest(kind, digest(kind, "a1a2a3")));
            }
            refusals.bad("hash to", Refusals.NO_REGISTERS, (x, r) -> x.hash(one, r, Desk.INFO));
            refusals.bad("hash from", Refusals.NO_REGISTERS, (x, r) -> x.hash(one, Desk.EMPTY, r));
        }
        refusals.bad("hash of kind", Refusals.NO_KINDS, (x, kind) -> x.hash(kind, Desk.EMPTY, Desk.INFO));
    }

    /** "the fewest zeros so that w / 4 bytes lack to a multiple of 2 w bytes", "B(8 times its length, w / 4)". */
    private static void hashPads() {
        int[] lengths = {0, 1, 31, 32, 54, 55, 56, 57, 63, 64, 65, 110, 111, 112, 113, 118, 119, 120, 121, 127, 128, 129, 183, 184, 185, 191,
            192, 193, 238, 239, 240, 241, 247, 248, 249, 255, 256, 257, 299, 300};
        for (int n : lengths) {
            for (int kind = 1; kind <= 3; kind += 2) {
                for (int value : new int[] {0, 128, 255}) {
                    int one = kind;
                    Desk desk = new Desk().fill(0, Checks.same(value, n));
                    desk.call(x -> x.hash(one, 1, 0));
                    checks.due("hash " + kind + " of " + n + " bytes " + value, desk.read(1), digest(kind, Checks.same(value, n)));
                }
            }
        }
    }

    // ---- 10: "MAC (EXTRACT, with the salt as key): SIZE. BAD: registers, KIND."

    private static void macKinds() {
        for (int kind = 1; kind <= 3; kind += 2) {
            int one = kind;
            String want = Checks.hex(Model.keyed(kind, Checks.bytes("b1b2"), Checks.bytes("a1a2a3")));
            for (int r : new int[] {0, 15}) {
                Desk desk = Desk.registers();
                checks.due("mac " + kind + " to " + r, desk.call(x -> x.mac(one, r, Desk.SHARED, Desk.INFO)), kind == 1 ? 32 : 64);
                checks.due("made", desk.read(r), want);
                desk.call(x -> x.copy(r, Desk.SHARED, 0, 2));
                desk.call(x -> x.mac(one, Desk.FULL, r, Desk.INFO));
                checks.due("made by key " + r, desk.read(Desk.FULL), want);
                desk.call(x -> x.copy(r, Desk.INFO, 0, 3));
                desk.call(x -> x.mac(one, Desk.FULL, Desk.SHARED, r));
                checks.due("made from " + r, desk.read(Desk.FULL), want);
            }
            refusals.bad("mac to", Refusals.NO_REGISTERS, (x, r) -> x.mac(one, r, Desk.SHARED, Desk.INFO));
            refusals.bad("mac key", Refusals.NO_REGISTERS, (x, r) -> x.mac(one, Desk.EMPTY, r, Desk.INFO));
            refusals.bad("mac from", Refusals.NO_REGISTERS, (x, r) -> x.mac(one, Desk.EMPTY, Desk.SHARED, r));
        }
        refusals.bad("mac of kind", Refusals.NO_KINDS, (x, kind) -> x.mac(kind, Desk.EMPTY, Desk.SHARED, Desk.INFO));
    }

    private static String mac(int kind, String key, String message) {
        Desk desk = new Desk().fill(0, key).fill(1, message);
        desk.call(x -> x.mac(kind, 2, 0, 1));
        return desk.read(2);
    }

    /** "k is its HASH if it is longer than 2 w bytes". */
    private static void macKeyIsHashedIfLonger() {
        for (int kind = 1; kind <= 3; kind += 2) {
            int block = kind == 1 ? 64 : 128;
            for (int n : new int[] {0, 1, block - 1, block, block + 1, 2 * block, 299, 300}) {
                String key = Checks.rising(77, n);
                for (int m : new int[] {0, 1, 300}) {
                    String message = Checks.rising(5, m);
                    checks.due("mac " + kind + " of key " + n + " and " + m, mac(kind, key, message),
                            Checks.hex(Model.keyed(kind, Checks.bytes(key), Checks.bytes(message))));
                }
                boolean hashed = mac(kind, key, "01").equals(mac(kind, digest(kind, key), "01"));
                checks.due("key of " + n + " is its hash", hashed ? 1 : 0, n > block ? 1 : 0);
            }
        }
    }

    /** "then zeros behind it up to 2 w bytes". */
    private static void macKeyGetsZeros() {
        for (int kind = 1; kind <= 3; kind += 2) {
            int block = kind == 1 ? 64 : 128;
            for (int n : new int[] {0, 1, block - 2, block - 1, block, block + 1}) {
                String key = Checks.rising(77, n);
                boolean same = mac(kind, key, "01").equals(mac(kind, key + "00", "01"));
                checks.due("a zero behind a key of " + n, same ? 1 : 0, n < block ? 1 : 0);
            }
        }
    }

    // ---- 11: "EXPAND to n bytes (0 .. 300): n. BAD: registers, KIND, n."

    private static void expandKinds() {
        for (int kind = 1; kind <= 3; kind += 2) {
            int one = kind;
            String want = Checks.hex(Model.stretched(kind, Checks.bytes("b1b2"), Checks.bytes("a1a2a3"), 70));
            for (int r : new int[] {0, 15}) {
                Desk desk = Desk.registers();
                checks.due("expand " + kind + " to " + r, desk.call(x -> x.expand(one, r, Desk.SHARED, Desk.INFO, 70)), 70);
                checks.due("made", desk.read(r), want);
                desk.call(x -> x.copy(r, Desk.SHARED, 0, 2));
                desk.call(x -> x.expand(one, Desk.FULL, r, Desk.INFO, 70));
                checks.due("made by key " + r, desk.read(Desk.FULL), want);
                desk.call(x -> x.copy(r, Desk.INFO, 0, 3));
                desk.call(x -> x.expand(one, Desk.FULL, Desk.SHARED, r, 70));
                checks.due("made for info " + r, desk.read(Desk.FULL), want);
            }
            refusals.bad("expand to", Refusals.NO_REGISTERS, (x, r) -> x.expand(one, r, Desk.SHARED, Desk.INFO, 5));
            refusals.bad("expand key", Refusals.NO_REGISTERS, (x, r) -> x.expand(one, Desk.EMPTY, r, Desk.INFO, 5));
            refusals.bad("expand info", Refusals.NO_REGISTERS, (x, r) -> x.expand(one, Desk.EMPTY, Desk.SHARED, r, 5));
            refusals.bad("expand n", Refusals.NO_LENGTHS, (x, n) -> x.expand(one, Desk.INFO, Desk.SHARED, Desk.INFO, n));
        }
        refusals.bad("expand of kind", Refusals.NO_KINDS, (x, kind) -> x.expand(kind, Desk.EMPTY, Desk.SHARED, Desk.INFO, 5));
        refusals.bad("expand of kind, to nothing", Refusals.NO_KINDS, (x, kind) -> x.expand(kind, Desk.INFO, Desk.SHARED, Desk.INFO, 0));
    }

    /** "the first n bytes of T(1) | T(2) | ..": around each multiple of SIZE, from a register that was full. */
    private static void expandLengths() {
        for (int kind = 1; kind <= 3; kind += 2) {
            int one = kind;
            String whole = Checks.hex(Model.stretched(kind, Checks.bytes("b1b2"), Checks.bytes("a1a2a3"), 300));
            int[] lengths = {0, 1, 2, 31, 32, 33, 63, 64, 65, 95, 96, 97, 127, 128, 129, 191, 192, 193, 255, 256, 257, 287, 288, 289, 298, 299, 300};
            for (int n : lengths) {
                Desk desk = Desk.registers();
                checks.due("expand " + kind + " to " + n, desk.call(x -> x.expand(one, Desk.FULL, Desk.SHARED, Desk.INFO, n)), n);
                checks.due("made", desk.read(Desk.FULL), whole.substring(0, 2 * n));
            }
        }
    }

    private static void expandInputs() {
        for (int kind = 1; kind <= 3; kind += 2) {
            int one = kind;
            for (int size : new int[] {0, 1, 63, 64, 65, 127, 128, 129, 300}) {
                String row = Checks.rising(8, size);
                Desk desk = new Desk().fill(0, row).fill(1, "0102");
                desk.call(x -> x.expand(one, 2, 0, 1, 70));
                desk.call(x -> x.expand(one, 3, 1, 0, 70));
                checks.due("key of " + size, desk.read(2), Checks.hex(Model.stretched(kind, Checks.bytes(row), Checks.bytes("0102"), 70)));
                checks.due("info of " + size, desk.read(3), Checks.hex(Model.stretched(kind, Checks.bytes("0102"), Checks.bytes(row), 70)));
            }
        }
    }

    // ---- 12: "AGREE: 32. BAD: registers, or one of both has not 32 bytes. INVALID: it is 32* zeros."

    private static void agreeRefusals() {
        String want = Checks.hex(Model.agreement(Checks.bytes(Checks.rising(1, 32)), Checks.bytes(Checks.rising(60, 32))));
        for (int r : new int[] {0, 15, Desk.FULL}) {
            Desk desk = Desk.registers();
            checks.due("agree to " + r, desk.call(x -> x.agree(r, Desk.OWN, Desk.THEIRS)), 32);
            checks.due("agreed", desk.read(r), want);
            desk.call(x -> x.copy(r, Desk.OWN, 0, 32));
            checks.due("agree by " + r, desk.call(x -> x.agree(Desk.INFO, r, Desk.THEIRS)), 32);
            checks.due("agreed", desk.read(Desk.INFO), want);
            desk.call(x -> x.copy(r, Desk.THEIRS, 0, 32));
            checks.due("agree with " + r, desk.call(x -> x.agree(Desk.INFO, Desk.OWN, r)), 32);
            checks.due("agreed", desk.read(Desk.INFO), want);
        }
        refusals.bad("agree to", Refusals.NO_REGISTERS, (x, r) -> x.agree(r, Desk.OWN, Desk.THEIRS));
        refusals.bad("agree by", NO_KEYS, (x, r) -> x.agree(Desk.INFO, r, Desk.THEIRS));
        refusals.bad("agree with", NO_KEYS, (x, r) -> x.agree(Desk.INFO, Desk.OWN, r));
    }

    /** All numbers that lead to zeros, each with and without the highest bit, which does not count. */
    static String[] zeroPoints() {
        BigInteger one = BigInteger.ONE;
        BigInteger[] small = {BigInteger.ZERO, one, P.subtract(one), P, P.add(one),
            new BigInteger("325606250916557431795983626356110631294008115727848805560023387167927233504"),
            new BigInteger("39382357235489614581723060781553021112529911719440698176882885853963445705823")};
        String[] rows = new String[2 * small.length];
        for (int i = 0; i < small.length; i++) {
            rows[2 * i] = Checks.hex(Model.littleBytes(small[i], 32));
            rows[2 * i + 1] = Checks.hex(Model.littleBytes(small[i].setBit(255), 32));
        }
        return rows;
    }

    private static void agreeZeros() {
        for (String point : zeroPoints()) {
            Refusals zeros = new Refusals(checks, () -> Desk.registers().fill(0, point));
            for (int key : new int[] {Desk.OWN, Desk.THEIRS, Desk.ZEROS}) {
                zeros.due("agree on zeros with " + point, KeySealer.INVALID, x -> x.agree(Desk.INFO, key, 0));
            }
        }
    }

    /** What stands next to those leads to no zeros. */
    private static void agreeBesideZeros() {
        for (String point : zeroPoints()) {
            for (int by = -2; by <= 2; by++) {
                BigInteger beside = Model.little(Checks.bytes(point)).add(BigInteger.valueOf(by)).mod(BigInteger.ONE.shiftLeft(256));
                agreeOnce(Checks.rising(1, 32), Checks.hex(Model.littleBytes(beside, 32)));
            }
        }
    }

    private static void agreeOnce(String key, String other) {
        byte[] want = Model.agreement(Checks.bytes(key), Checks.bytes(other));
        Desk desk = new Desk().fill(0, key).fill(1, other).fill(2, "99");
        checks.due("agree " + key + " " + other, desk.call(x -> x.agree(2, 0, 1)), Model.isZero(want) ? KeySealer.INVALID : 32);
        checks.due("agreed " + key + " " + other, desk.read(2), Model.isZero(want) ? "99" : Checks.hex(want));
    }

    private static String agreedAfterTurn(int turned, int i, int bit) {
        Desk desk = Desk.registers();
        desk.call(x -> x.turn(turned, i, bit));
        desk.call(x -> x.agree(Desk.SPARE, Desk.OWN, Desk.THEIRS));
        return desk.read(Desk.SPARE);
    }

    /** "k's first byte without its three lowest bits, its last without its highest and with the next one set". */
    private static void agreeKeyBits() {
        Desk desk = Desk.registers();
        desk.call(x -> x.agree(Desk.SPARE, Desk.OWN, Desk.THEIRS));
        String plain = desk.read(Desk.SPARE);
        for (int i : new int[] {0, 1, 30, 31}) {
            for (int bit = 0; bit <= 7; bit++) {
                boolean free = (i == 0 && bit <= 2) || (i == 31 && bit >= 6);
                boolean same = agreedAfterTurn(Desk.OWN, i, bit).equals(plain);
                checks.due("bit " + bit + " of the key's byte " + i + " is free", same ? 1 : 0, free ? 1 : 0);
            }
        }
        String[] keys = {Checks.same(0, 32), Checks.same(255, 32), "07" + Checks.same(0, 30) + "c0", "f8" + Checks.same(255, 30) + "3f"};
        for (String key : keys) {
            agreeOnce(key, Checks.rising(60, 32));
        }
    }

    /** "u by L without its highest bit". */
    private static void agreeOtherBits() {
        Desk desk = Desk.registers();
        desk.call(x -> x.agree(Desk.SPARE, Desk.OWN, Desk.THEIRS));
        String plain = desk.read(Desk.SPARE);
        for (int i : new int[] {0, 1, 30, 31}) {
            for (int bit = 0; bit <= 7; bit++) {
                boolean same = agreedAfterTurn(Desk.THEIRS, i, bit).equals(plain);
                checks.due("bit " + bit + " of the other's byte " + i + " is free", same ? 1 : 0, i == 31 && bit == 7 ? 1 : 0);
            }
        }
    }

    /** "numbers modulo 2^255 - 19": 2^255 - 19 + i is i, up to the last one that 255 bits hold. */
    private static void agreeBeyondTheModulus() {
        String key = Checks.rising(1, 32);
        for (int i = 2; i <= 18; i++) {
            String small = Checks.hex(Model.littleBytes(BigInteger.valueOf(i), 32));
            String large = Checks.hex(Model.littleBytes(P.add(BigInteger.valueOf(i)), 32));
            Desk desk = new Desk().fill(0, key).fill(1, small).fill(2, large);
            checks.due("agree with " + i, desk.call(x -> x.agree(3, 0, 1)), 32);
            checks.due("agree with the modulus and " + i, desk.call(x -> x.agree(4, 0, 2)), 32);
            checks.due("the same", desk.read(4), desk.read(3));
            agreeOnce(key, small);
            agreeOnce(key, Checks.hex(Model.littleBytes(P.subtract(BigInteger.valueOf(i)), 32)));
        }
    }

    // ---- 13: "PUBLIC: 32. BAD: registers, or the key has not 32 bytes."

    private static void open() {
        for (String key : new String[] {Checks.same(0, 32), Checks.same(255, 32), Checks.rising(1, 32), "01" + Checks.same(0, 31)}) {
            for (int r : new int[] {0, 15}) {
                Desk desk = new Desk().fill(r, key).fill(5, Checks.rising(0, 300));
                checks.due("open of " + r, desk.call(x -> x.open(5, r)), 32);
                checks.due("opened", desk.read(5), Checks.hex(Model.opened(Checks.bytes(key))));
                desk.call(x -> x.copy(6, r, 0, 32));
                checks.due("open to " + r, desk.call(x -> x.open(r, 6)), 32);
                checks.due("opened", desk.read(r), desk.read(5));
            }
        }
        refusals.bad("open to", Refusals.NO_REGISTERS, (x, r) -> x.open(r, Desk.OWN));
        refusals.bad("open of", NO_KEYS, (x, r) -> x.open(Desk.INFO, r));
    }

    // ---- 14: "A PAIR: the key, then its PUBLIC (which counts if both are one register): 32. BAD: registers."

    private static void pair() {
        for (int n : new int[] {0, 1, 31, 32, 33, 299, 300}) {
            byte[] key = Model.pairKey(Checks.bytes(Checks.rising(4, n)));
            int[][] places = {{0, 15, 5}, {15, 0, 5}, {5, 6, 0}, {5, 6, 15}, {5, 5, 6}, {5, 6, 5}, {5, 6, 6}, {5, 5, 5}};
            for (int[] place : places) {
                Desk desk = new Desk().fill(place[2], Checks.rising(4, n));
                checks.due("pair of " + n, desk.call(x -> x.pair(place[0], place[1], place[2])), 32);
                checks.due("its public key", desk.read(place[1]), Checks.hex(Model.opened(key)));
                checks.due("its key", desk.read(place[0]), Checks.hex(place[0] == place[1] ? Model.opened(key) : key));
            }
        }
        refusals.bad("pair's key to", Refusals.NO_REGISTERS, (x, r) -> x.pair(r, Desk.EMPTY, Desk.INFO));
        refusals.bad("pair's public key to", Refusals.NO_REGISTERS, (x, r) -> x.pair(Desk.EMPTY, r, Desk.INFO));
        refusals.bad("pair from", Refusals.NO_REGISTERS, (x, r) -> x.pair(Desk.EMPTY, Desk.SPARE, r));
    }
}
