import java.math.BigInteger;
import java.util.Arrays;
import java.util.Random;

/**
 * Promise 15, cipher 3: its tag's number must be the least one modulo 2^130 - 5. Random texts never come near that
 * edge, so locked texts are sought whose number is small or just below the modulus.
 */
public final class TagEdgesTest {
    private static final Checks checks = new Checks();
    private static final BigInteger M = BigInteger.ONE.shiftLeft(130).subtract(BigInteger.valueOf(5));
    private static final BigInteger TOP = BigInteger.ONE.shiftLeft(128);

    public static void main(String[] args) throws Exception {
        Random random = new Random(1);
        for (int i = -6; i <= 12; i++) {
            for (int j = 0; j < 20; j++) {
                tagOf(random, BigInteger.valueOf(i).mod(M));
                tagOf(random, TOP.multiply(BigInteger.valueOf(j & 3)).add(BigInteger.valueOf(i)).mod(M));
            }
        }
        checks.end("TagEdgesTest");
    }

    private static byte[] stream(byte[] key, byte[] nonce, int first, int n) throws Exception {
        javax.crypto.Cipher c = javax.crypto.Cipher.getInstance("ChaCha20");
        c.init(javax.crypto.Cipher.ENCRYPT_MODE, new javax.crypto.spec.SecretKeySpec(key, "ChaCha20"),
                new javax.crypto.spec.ChaCha20ParameterSpec(nonce, first));
        return c.doFinal(new byte[n]);
    }

    private static byte[] next(Random random, int n) {
        byte[] out = new byte[n];
        random.nextBytes(out);
        return out;
    }

    private static BigInteger clamped(byte[] row) {
        byte[] r = Arrays.copyOf(row, 16);
        for (int i = 3; i < 16; i += 4) {
            r[i] &= 15;
        }
        for (int i = 4; i < 16; i += 4) {
            r[i] &= (byte) 252;
        }
        return Model.little(r);
    }

    /** Two blocks of locked text: the second is what leads to the number wanted, if it is a block at all. */
    private static void tagOf(Random random, BigInteger want) throws Exception {
        byte[] key = next(random, 32);
        byte[] nonce = next(random, 12);
        byte[] once = stream(key, nonce, 0, 64);
        BigInteger r = clamped(once);
        BigInteger s = Model.little(Arrays.copyOfRange(once, 16, 32));
        BigInteger lengths = BigInteger.valueOf(32).shiftLeft(64);
        BigInteger back = r.modInverse(M);
        for (int tries = 0; tries < 1000; tries++) {
            byte[] first = next(random, 16);
            BigInteger v = Model.little(first).add(TOP).multiply(r).mod(M);
            BigInteger before = want.multiply(back).subtract(TOP).subtract(lengths).mod(M);
            BigInteger second = before.multiply(back).subtract(TOP).subtract(v).mod(M);
            if (second.bitLength() <= 128) {
                byte[] locked = Model.cat(first, Model.littleBytes(second, 16));
                compare(key, nonce, locked, Model.littleBytes(want.add(s), 16));
                return;
            }
        }
        checks.due("a text was found", 0, 1);
    }

    private static void compare(byte[] key, byte[] nonce, byte[] locked, byte[] tag) throws Exception {
        byte[] hidden = stream(key, nonce, 1, locked.length);
        byte[] text = locked.clone();
        for (int i = 0; i < text.length; i++) {
            text[i] ^= hidden[i];
        }
        Sealer x = new Sealer();
        x.fill(0, Checks.hex(key));
        x.fill(1, Checks.hex(nonce));
        x.fill(3, Checks.hex(text));
        checks.due("lock", x.lock(3, 4, 0, 1, 2, 3), 48);
        byte[] want = Model.cat(locked, tag);
        for (int i = 0; i < 48; i++) {
            checks.due("byte " + i, x.at(4, i), want[i] & 255);
        }
    }
}
