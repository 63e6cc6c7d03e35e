import java.io.ByteArrayOutputStream;
import java.math.BigInteger;
import java.nio.charset.StandardCharsets;
import java.security.GeneralSecurityException;
import java.security.MessageDigest;
import java.util.Arrays;
import javax.crypto.AEADBadTagException;
import javax.crypto.Cipher;
import javax.crypto.spec.GCMParameterSpec;
import javax.crypto.spec.IvParameterSpec;
import javax.crypto.spec.SecretKeySpec;

/** The document once more, over Java's own library and big numbers, to be compared with the class call by call. */
final class Model {
    static final int NONE = -1, BAD = -2, FULL = -3, INVALID = -11, SHARED = -12, LIMIT = -13, REFUSED = -14;
    private static final BigInteger P = BigInteger.ONE.shiftLeft(255).subtract(BigInteger.valueOf(19));
    private static final BigInteger LAST = BigInteger.ONE.shiftLeft(96).subtract(BigInteger.ONE);
    private static final byte[] NO_BYTES = {};

    final byte[][] registers = new byte[16][];
    private final Held[] contexts = new Held[4];
    private final int[] used = {NONE, NONE, NONE, NONE, NONE};

    private static final class Held {
        int role, mode, kind, cipher;
        byte[] key, base, exporter;
        BigInteger sequence = BigInteger.ZERO;
    }

    Model() {
        Arrays.fill(registers, NO_BYTES);
    }

    // ---- below

    static byte[] cat(byte[]... parts) {
        ByteArrayOutputStream all = new ByteArrayOutputStream();
        for (byte[] part : parts) {
            all.writeBytes(part);
        }
        return all.toByteArray();
    }

    static byte[] text(String s) {
        return s.getBytes(StandardCharsets.ISO_8859_1);
    }

    static byte[] big(long v, int n) {
        byte[] out = new byte[n];
        for (int i = 0; i < n; i++) {
            out[n - 1 - i] = (byte) (v >>> (8 * i));
        }
        return out;
    }

    static byte[] digest(int kind, byte[] message) {
        try {
            return MessageDigest.getInstance(kind == 1 ? "SHA-256" : "SHA-512").digest(message);
        } catch (GeneralSecurityException e) {
            throw new IllegalStateException(e);
        }
    }

    static byte[] keyed(int kind, byte[] key, byte[] message) {
        int block = kind == 1 ? 64 : 128;
        byte[] k = Arrays.copyOf(key.length > block ? digest(kind, key) : key, block);
        byte[] inside = new byte[block];
        byte[] outside = new byte[block];
        for (int i = 0; i < block; i++) {
            inside[i] = (byte) (k[i] ^ 0x36);
            outside[i] = (byte) (k[i] ^ 0x5c);
        }
        return digest(kind, cat(outside, digest(kind, cat(inside, message))));
    }

    static byte[] stretched(int kind, byte[] key, byte[] info, int n) {
        byte[] out = NO_BYTES;
        byte[] last = NO_BYTES;
        for (int i = 1; out.length < n; i++) {
            last = keyed(kind, key, cat(last, info, big(i, 1)));
            out = cat(out, last);
        }
        return Arrays.copyOf(out, n);
    }

    static BigInteger little(byte[] bytes) {
        byte[] turned = new byte[bytes.length];
        for (int i = 0; i < bytes.length; i++) {
            turned[i] = bytes[bytes.length - 1 - i];
        }
        return new BigInteger(1, turned);
    }

    static byte[] littleBytes(BigInteger v, int n) {
        byte[] out = new byte[n];
        for (int i = 0; i < n; i++) {
            out[i] = v.shiftRight(8 * i).byteValue();
        }
        return out;
    }

    static byte[] agreement(byte[] key, byte[] other) {
        BigInteger k = little(key).clearBit(0).clearBit(1).clearBit(2).clearBit(255).setBit(254);
        BigInteger u = little(other).clearBit(255);
        BigInteger x2 = BigInteger.ONE, z2 = BigInteger.ZERO, x3 = u, z3 = BigInteger.ONE, spare;
        for (int i = 254; i >= 0; i--) {
            if (k.testBit(i)) {
                spare = x2; x2 = x3; x3 = spare;
                spare = z2; z2 = z3; z3 = spare;
            }
            BigInteger a = x2.add(z2), b = x2.subtract(z2), c = x3.add(z3), d = x3.subtract(z3);
            BigInteger aa = a.multiply(a).mod(P), bb = b.multiply(b).mod(P), e = aa.subtract(bb);
            BigInteger da = d.multiply(a), cb = c.multiply(b);
            x3 = da.add(cb).pow(2).mod(P);
            z3 = u.multiply(da.subtract(cb).pow(2)).mod(P);
            x2 = aa.multiply(bb).mod(P);
            z2 = e.multiply(aa.add(e.multiply(BigInteger.valueOf(121665)))).mod(P);
            if (k.testBit(i)) {
                spare = x2; x2 = x3; x3 = spare;
                spare = z2; z2 = z3; z3 = spare;
            }
        }
        BigInteger inverse = z2.signum() == 0 ? BigInteger.ZERO : z2.modInverse(P);
        return littleBytes(x2.multiply(inverse).mod(P), 32);
    }

    static byte[] opened(byte[] key) {
        byte[] nine = new byte[32];
        nine[0] = 9;
        return agreement(key, nine);
    }

    static boolean isZero(byte[] bytes) {
        for (byte b : bytes) {
            if (b != 0) {
                return false;
            }
        }
        return true;
    }

    /** null where the tag is another one. */
    static byte[] ciphered(int direction, int cipher, byte[] key, byte[] nonce, byte[] aad, byte[] text) {
        try {
            Cipher c = Cipher.getInstance(cipher == 3 ? "ChaCha20-Poly1305" : "AES/GCM/NoPadding");
            c.init(direction, new SecretKeySpec(key, cipher == 3 ? "ChaCha20" : "AES"),
                    cipher == 3 ? new IvParameterSpec(nonce) : new GCMParameterSpec(128, nonce));
            c.updateAAD(aad);
            return c.doFinal(text);
        } catch (AEADBadTagException e) {
            return null;
        } catch (GeneralSecurityException e) {
            throw new IllegalStateException(e);
        }
    }

    static byte[] locked(int cipher, byte[] key, byte[] nonce, byte[] aad, byte[] text) {
        return ciphered(Cipher.ENCRYPT_MODE, cipher, key, nonce, aad, text);
    }

    static byte[] unlocked(int cipher, byte[] key, byte[] nonce, byte[] aad, byte[] text) {
        return text.length < 16 ? null : ciphered(Cipher.DECRYPT_MODE, cipher, key, nonce, aad, text);
    }

    // ---- sealing

    static byte[] agreementId() {
        return cat(text("KEM"), big(32, 2));
    }

    static byte[] suiteId(int kind, int cipher) {
        return cat(text("HPKE"), big(32, 2), big(kind, 2), big(cipher == 255 ? 65535 : cipher, 2));
    }

    static byte[] x(int kind, byte[] id, byte[] salt, String label, byte[] m) {
        return keyed(kind, salt, cat(text("HPKE-v1"), id, text(label), m));
    }

    static byte[] p(int kind, byte[] id, byte[] k, String label, byte[] info, int n) {
        return stretched(kind, k, cat(big(n, 2), text("HPKE-v1"), id, text(label), info), n);
    }

    static byte[] pairKey(byte[] m) {
        return p(1, agreementId(), x(1, agreementId(), NO_BYTES, "dkp_prk", m), "sk", NO_BYTES, 32);
    }

    private Held scheduled(int role, int mode, int kind, int cipher, byte[] d, byte[] c) {
        byte[] secret = p(1, agreementId(), x(1, agreementId(), NO_BYTES, "eae_prk", d), "shared_secret", c, 32);
        byte[] id = suiteId(kind, cipher);
        byte[] z = cat(big(mode, 1), x(kind, id, NO_BYTES, "psk_id_hash", usedBytes(2)),
                x(kind, id, NO_BYTES, "info_hash", usedBytes(0)));
        byte[] t = x(kind, id, secret, "secret", usedBytes(1));
        Held held = new Held();
        held.role = role;
        held.mode = mode;
        held.kind = kind;
        held.cipher = cipher;
        held.key = p(kind, id, t, "key", z, keyBytes(cipher));
        held.base = p(kind, id, t, "base_nonce", z, cipher == 255 ? 0 : 12);
        held.exporter = p(kind, id, t, "exp", z, kind == 1 ? 32 : 64);
        return held;
    }

    private static int keyBytes(int cipher) {
        return cipher == 255 ? 0 : cipher == 1 ? 16 : 32;
    }

    private static byte[] nonce(Held held) {
        byte[] out = new BigInteger(1, held.base).xor(held.sequence).toByteArray();
        byte[] fit = new byte[12];
        for (int i = 0; i < 12 && i < out.length; i++) {
            fit[11 - i] = out[out.length - 1 - i];
        }
        return fit;
    }

    // ---- calls

    private static boolean isRow(int... rows) {
        for (int r : rows) {
            if (r < 0 || r > 15) {
                return false;
            }
        }
        return true;
    }

    private static boolean isKind(int kind) {
        return kind == 1 || kind == 3;
    }

    private byte[] usedBytes(int what) {
        return used[what] == NONE ? NO_BYTES : registers[used[what]];
    }

    private Held begun(int context) {
        return context < 0 || context > 3 ? null : contexts[context];
    }

    private int give(int to, byte[] bytes) {
        registers[to] = bytes;
        return bytes.length;
    }

    int add(int r, int n, long w) {
        if (!isRow(r) || n < 1 || n > 8) return BAD;
        if (registers[r].length + n > 300) return FULL;
        return give(r, cat(registers[r], big(w, n)));
    }

    int clear(int r) {
        if (!isRow(r)) return BAD;
        int had = registers[r].length;
        registers[r] = NO_BYTES;
        return had;
    }

    int copy(int to, int from, int begin, int n) {
        if (!isRow(to, from) || begin < 0 || n < 0 || (long) begin + n > registers[from].length) return BAD;
        return give(to, Arrays.copyOfRange(registers[from], begin, begin + n));
    }

    int join(int to, int from) {
        if (!isRow(to, from)) return BAD;
        if (registers[to].length + registers[from].length > 300) return FULL;
        return give(to, cat(registers[to], registers[from]));
    }

    int turn(int r, int i, int bit) {
        if (!isRow(r) || i < 0 || i >= registers[r].length || bit < 0 || bit > 7) return BAD;
        registers[r] = registers[r].clone();
        registers[r][i] ^= (byte) (1 << bit);
        return registers[r][i] & 255;
    }

    int size(int r) {
        return isRow(r) ? registers[r].length : BAD;
    }

    int at(int r, int i) {
        if (!isRow(r)) return BAD;
        return i < 0 || i >= registers[r].length ? NONE : registers[r][i] & 255;
    }

    int hash(int kind, int to, int from) {
        if (!isRow(to, from) || !isKind(kind)) return BAD;
        return give(to, digest(kind, registers[from]));
    }

    int mac(int kind, int to, int key, int from) {
        if (!isRow(to, key, from) || !isKind(kind)) return BAD;
        return give(to, keyed(kind, registers[key], registers[from]));
    }

    int expand(int kind, int to, int key, int info, int n) {
        if (!isRow(to, key, info) || !isKind(kind) || n < 0 || n > 300) return BAD;
        return give(to, stretched(kind, registers[key], registers[info], n));
    }

    private boolean isKey(int r) {
        return isRow(r) && registers[r].length == 32;
    }

    int agree(int to, int key, int other) {
        if (!isRow(to) || !isKey(key) || !isKey(other)) return BAD;
        byte[] both = agreement(registers[key], registers[other]);
        return isZero(both) ? INVALID : give(to, both);
    }

    int open(int to, int key) {
        if (!isRow(to) || !isKey(key)) return BAD;
        return give(to, opened(registers[key]));
    }

    int pair(int key, int open, int from) {
        if (!isRow(key, open, from)) return BAD;
        byte[] k = pairKey(registers[from]);
        registers[key] = k;
        return give(open, opened(k));
    }

    private boolean isLocking(int cipher, int key, int nonce) {
        return cipher >= 1 && cipher <= 3 && isRow(key, nonce) && registers[key].length == keyBytes(cipher)
                && registers[nonce].length == 12;
    }

    int lock(int cipher, int to, int key, int nonce, int aad, int text) {
        if (!isRow(to, aad, text) || !isLocking(cipher, key, nonce)) return BAD;
        if (registers[text].length + 16 > 300) return FULL;
        return give(to, locked(cipher, registers[key], registers[nonce], registers[aad], registers[text]));
    }

    int unlock(int cipher, int to, int key, int nonce, int aad, int text) {
        if (!isRow(to, aad, text) || !isLocking(cipher, key, nonce)) return BAD;
        byte[] out = unlocked(cipher, registers[key], registers[nonce], registers[aad], registers[text]);
        return out == null ? REFUSED : give(to, out);
    }

    int use(int what, int r) {
        if (what < 0 || what > 4 || (r != NONE && !isRow(r))) return BAD;
        used[what] = r;
        return 0;
    }

    private boolean isBeginning(int context, int mode, int kind, int cipher, int lasting) {
        return context >= 0 && context <= 3 && mode >= 0 && mode <= 3 && isKind(kind)
                && ((cipher >= 1 && cipher <= 3) || cipher == 255) && (mode < 2 || usedBytes(lasting).length == 32);
    }

    private boolean sharedIsRight(int mode) {
        boolean key = usedBytes(1).length > 0;
        boolean name = usedBytes(2).length > 0;
        return mode == 1 || mode == 3 ? key && name : !key && !name;
    }

    int sender(int context, int mode, int kind, int cipher, int to, int key, int other) {
        if (!isBeginning(context, mode, kind, cipher, 3) || !isRow(to) || !isKey(key) || !isKey(other)) return BAD;
        if (!sharedIsRight(mode)) return SHARED;
        byte[] e = registers[key], p = registers[other], k = usedBytes(3);
        byte[] d = agreement(e, p);
        if (isZero(d)) return INVALID;
        byte[] c = cat(opened(e), p);
        if (mode >= 2) {
            byte[] second = agreement(k, p);
            if (isZero(second)) return INVALID;
            d = cat(d, second);
            c = cat(c, opened(k));
        }
        contexts[context] = scheduled(1, mode, kind, cipher, d, c);
        return give(to, opened(e));
    }

    int receiver(int context, int mode, int kind, int cipher, int got, int key) {
        if (!isBeginning(context, mode, kind, cipher, 4) || !isKey(got) || !isKey(key)) return BAD;
        if (!sharedIsRight(mode)) return SHARED;
        byte[] e = registers[got], k = registers[key], q = usedBytes(4);
        byte[] d = agreement(k, e);
        if (isZero(d)) return INVALID;
        byte[] c = cat(e, opened(k));
        if (mode >= 2) {
            byte[] second = agreement(k, q);
            if (isZero(second)) return INVALID;
            d = cat(d, second);
            c = cat(c, q);
        }
        contexts[context] = scheduled(2, mode, kind, cipher, d, c);
        return 0;
    }

    int seal(int context, int to, int aad, int text) {
        Held held = begun(context);
        if (held == null || held.role != 1 || held.cipher == 255 || !isRow(to, aad, text)) return BAD;
        if (held.sequence.equals(LAST)) return LIMIT;
        if (registers[text].length + 16 > 300) return FULL;
        byte[] out = locked(held.cipher, held.key, nonce(held), registers[aad], registers[text]);
        held.sequence = held.sequence.add(BigInteger.ONE);
        return give(to, out);
    }

    int unseal(int context, int to, int aad, int text) {
        Held held = begun(context);
        if (held == null || held.role != 2 || held.cipher == 255 || !isRow(to, aad, text)) return BAD;
        if (held.sequence.equals(LAST)) return LIMIT;
        byte[] out = unlocked(held.cipher, held.key, nonce(held), registers[aad], registers[text]);
        if (out == null) return REFUSED;
        held.sequence = held.sequence.add(BigInteger.ONE);
        return give(to, out);
    }

    int export(int context, int to, int info, int n) {
        Held held = begun(context);
        if (held == null || !isRow(to, info) || n < 0 || n > 300) return BAD;
        return give(to, p(held.kind, suiteId(held.kind, held.cipher), held.exporter, "sec", registers[info], n));
    }

    int sequence(int context, int high, int middle, int low) {
        Held held = begun(context);
        if (held == null) return BAD;
        held.sequence = new BigInteger(1, cat(big(high, 4), big(middle, 4), big(low, 4)));
        return 0;
    }

    int told(int context, int what) {
        if (context < 0 || context > 3 || what < 0 || what > 6) return BAD;
        Held held = contexts[context];
        if (held == null) return 0;
        switch (what) {
            case 0: return held.role;
            case 1: return held.mode;
            case 2: return held.kind;
            case 3: return held.cipher;
            default: return held.sequence.shiftRight(32 * (6 - what)).intValue();
        }
    }

    int secret(int context, int what, int to) {
        Held held = begun(context);
        if (held == null || !isRow(to) || what < 0 || what > 2) return BAD;
        return give(to, what == 0 ? held.key : what == 1 ? held.base : held.exporter);
    }
}
