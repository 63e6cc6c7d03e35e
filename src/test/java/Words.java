import java.math.BigInteger;
import java.util.Arrays;

/**
 * The document's "Terms" put down word by word, without Java's hashes and ciphers: it holds the class to what the
 * document says, should that ever be other than what the library's functions do.
 */
final class Words {
    private static final BigInteger ONE = BigInteger.ONE;
    private static final BigInteger FIELD_128 = ONE.shiftLeft(128).or(ONE.shiftLeft(7)).or(ONE.shiftLeft(2)).or(ONE.shiftLeft(1)).or(ONE);
    private static final BigInteger MODULUS_130 = ONE.shiftLeft(130).subtract(BigInteger.valueOf(5));
    private static final int[] SUB = subs();

    private Words() {
    }

    // ---- 1 HASHES

    private final static class Hash {
        final int w, r;
        final int[] s0, s1, big0, big1;

        Hash(int kind) {
            w = kind == 1 ? 32 : 64;
            r = kind == 1 ? 64 : 80;
            s0 = kind == 1 ? new int[] {7, 18, 3} : new int[] {1, 8, 7};
            s1 = kind == 1 ? new int[] {17, 19, 10} : new int[] {19, 61, 6};
            big0 = kind == 1 ? new int[] {2, 13, 22} : new int[] {28, 34, 39};
            big1 = kind == 1 ? new int[] {6, 11, 25} : new int[] {14, 18, 41};
        }

        BigInteger cut(BigInteger x) {
            return x.mod(ONE.shiftLeft(w));
        }

        BigInteger turned(BigInteger x, int k) {
            return cut(x.shiftRight(k).or(x.shiftLeft(w - k)));
        }

        BigInteger small(BigInteger x, int[] by) {
            return turned(x, by[0]).xor(turned(x, by[1])).xor(x.shiftRight(by[2]));
        }

        BigInteger large(BigInteger x, int[] by) {
            return turned(x, by[0]).xor(turned(x, by[1])).xor(turned(x, by[2]));
        }

        BigInteger not(BigInteger x) {
            return ONE.shiftLeft(w).subtract(ONE).subtract(x);
        }

        /** The first w bits behind the point of a prime's root. */
        BigInteger rootBits(int prime, int power) {
            BigInteger scaled = BigInteger.valueOf(prime).shiftLeft(power * w);
            BigInteger low = BigInteger.ZERO;
            BigInteger high = ONE.shiftLeft(w + 8);
            while (high.subtract(low).compareTo(ONE) > 0) {
                BigInteger middle = low.add(high).shiftRight(1);
                if (middle.pow(power).compareTo(scaled) <= 0) {
                    low = middle;
                } else {
                    high = middle;
                }
            }
            return cut(low);
        }

        byte[] of(byte[] message) {
            int length = w / 4;
            int zeros = 0;
            while ((message.length + 1 + zeros + length) % (2 * w) != 0) {
                zeros++;
            }
            byte[] whole = Model.cat(message, Model.big(128, 1), new byte[zeros + length - 8], Model.big(8L * message.length, 8));
            BigInteger[] state = new BigInteger[8];
            for (int i = 0; i < 8; i++) {
                state[i] = rootBits(prime(i), 2);
            }
            for (int i = 0; i < whole.length; i += 2 * w) {
                block(state, Arrays.copyOfRange(whole, i, i + 2 * w));
            }
            byte[] out = {};
            for (BigInteger word : state) {
                out = Model.cat(out, Model.big(word.longValue(), w / 8));
            }
            return out;
        }

        void block(BigInteger[] state, byte[] bytes) {
            BigInteger[] m = new BigInteger[r];
            for (int t = 0; t < r; t++) {
                m[t] = t < 16 ? new BigInteger(1, Arrays.copyOfRange(bytes, t * w / 8, (t + 1) * w / 8))
                        : cut(small(m[t - 2], s1).add(m[t - 7]).add(small(m[t - 15], s0)).add(m[t - 16]));
            }
            BigInteger a = state[0], b = state[1], c = state[2], d = state[3], e = state[4], f = state[5], g = state[6], h = state[7];
            for (int t = 0; t < r; t++) {
                BigInteger x = cut(h.add(large(e, big1)).add(e.and(f).xor(not(e).and(g))).add(rootBits(prime(t), 3)).add(m[t]));
                BigInteger y = cut(large(a, big0).add(a.and(b).xor(a.and(c)).xor(b.and(c))));
                h = g;
                g = f;
                f = e;
                e = cut(d.add(x));
                d = c;
                c = b;
                b = a;
                a = cut(x.add(y));
            }
            BigInteger[] last = {a, b, c, d, e, f, g, h};
            for (int i = 0; i < 8; i++) {
                state[i] = cut(state[i].add(last[i]));
            }
        }
    }

    private static int prime(int i) {
        int found = -1;
        int n = 1;
        while (found < i) {
            n++;
            found += BigInteger.valueOf(n).isProbablePrime(20) ? 1 : 0;
        }
        return n;
    }

    static byte[] hash(int kind, byte[] message) {
        return new Hash(kind).of(message);
    }

    static byte[] mac(int kind, byte[] key, byte[] message) {
        int block = kind == 1 ? 64 : 128;
        byte[] k = Arrays.copyOf(key.length > block ? hash(kind, key) : key, block);
        return hash(kind, Model.cat(mixed(k, 92), hash(kind, Model.cat(mixed(k, 54), message))));
    }

    private static byte[] mixed(byte[] row, int value) {
        byte[] out = row.clone();
        for (int i = 0; i < out.length; i++) {
            out[i] ^= (byte) value;
        }
        return out;
    }

    // ---- 3 CIPHERS, NUMBERS 1 and 2

    private static int times(int a, int b) {
        int out = 0;
        for (int i = 0; i < 8; i++) {
            out ^= (b >> i & 1) == 1 ? a << i : 0;
        }
        for (int i = 14; i >= 8; i--) {
            out ^= (out >> i & 1) == 1 ? 0b100011011 << (i - 8) : 0;
        }
        return out;
    }

    private static int[] subs() {
        int[] out = new int[256];
        for (int b = 0; b < 256; b++) {
            int inverse = 0;
            for (int i = 1; i < 256; i++) {
                inverse = times(b, i) == 1 ? i : inverse;
            }
            out[b] = inverse ^ turned8(inverse, 7) ^ turned8(inverse, 6) ^ turned8(inverse, 5) ^ turned8(inverse, 4) ^ 99;
        }
        return out;
    }

    private static int turned8(int x, int k) {
        return (x >> k | x << (8 - k)) & 255;
    }

    private static int[][] keyWords(byte[] key) {
        int many = key.length / 4;
        int rounds = many + 6;
        int[][] words = new int[4 * rounds + 4][4];
        for (int i = 0; i < words.length; i++) {
            for (int j = 0; j < 4; j++) {
                words[i][j] = i < many ? key[4 * i + j] & 255 : words[i - many][j] ^ changed(words[i - 1], i, many)[j];
            }
        }
        return words;
    }

    private static int[] changed(int[] word, int i, int many) {
        int[] out = word.clone();
        if (i % many == 0) {
            int power = 1;
            for (int j = 1; j < i / many; j++) {
                power = times(power, 2);
            }
            for (int j = 0; j < 4; j++) {
                out[j] = SUB[word[(j + 1) % 4]];
            }
            out[0] ^= power;
        } else if (many == 8 && i % 8 == 4) {
            for (int j = 0; j < 4; j++) {
                out[j] = SUB[word[j]];
            }
        }
        return out;
    }

    private static byte[] cipher(byte[] key, byte[] block) {
        int[][] words = keyWords(key);
        int rounds = key.length / 4 + 6;
        int[] now = new int[16];
        for (int i = 0; i < 16; i++) {
            now[i] = (block[i] & 255) ^ words[i / 4][i % 4];
        }
        for (int round = 1; round <= rounds; round++) {
            int[] next = new int[16];
            for (int i = 0; i < 16; i++) {
                next[i] = SUB[now[(i + 4 * (i % 4)) % 16]];
            }
            for (int i = 0; i < 16; i++) {
                int a = next[i], b = next[i / 4 * 4 + (i + 1) % 4], c = next[i / 4 * 4 + (i + 2) % 4], d = next[i / 4 * 4 + (i + 3) % 4];
                now[i] = (round == rounds ? a : times(2, a) ^ times(3, b) ^ c ^ d) ^ words[4 * round + i / 4][i % 4];
            }
        }
        byte[] out = new byte[16];
        for (int i = 0; i < 16; i++) {
            out[i] = (byte) now[i];
        }
        return out;
    }

    /** The first byte's highest bit is the coefficient of x^0. */
    private static BigInteger polynomial(byte[] block) {
        BigInteger out = BigInteger.ZERO;
        for (int i = 0; i < 128; i++) {
            out = (block[i / 8] >> (7 - i % 8) & 1) == 1 ? out.setBit(i) : out;
        }
        return out;
    }

    private static byte[] blockOf(BigInteger polynomial) {
        byte[] out = new byte[16];
        for (int i = 0; i < 128; i++) {
            out[i / 8] |= (byte) (polynomial.testBit(i) ? 1 << (7 - i % 8) : 0);
        }
        return out;
    }

    private static BigInteger product(BigInteger a, BigInteger b) {
        BigInteger out = BigInteger.ZERO;
        for (int i = 0; i < 128; i++) {
            out = b.testBit(i) ? out.xor(a.shiftLeft(i)) : out;
        }
        for (int i = 254; i >= 128; i--) {
            out = out.testBit(i) ? out.xor(FIELD_128.shiftLeft(i - 128)) : out;
        }
        return out;
    }

    private static byte[] filled(byte[] row) {
        return Arrays.copyOf(row, (row.length + 15) / 16 * 16);
    }

    private static byte[] xor(byte[] a, byte[] b) {
        byte[] out = a.clone();
        for (int i = 0; i < out.length; i++) {
            out[i] ^= b[i];
        }
        return out;
    }

    private static byte[] lockByBlocks(byte[] key, byte[] nonce, byte[] aad, byte[] text) {
        byte[] stream = {};
        for (int n = 2; stream.length < text.length; n++) {
            stream = Model.cat(stream, cipher(key, Model.cat(nonce, Model.big(n, 4))));
        }
        byte[] locked = xor(text, stream);
        byte[] all = Model.cat(filled(aad), filled(locked), Model.big(8L * aad.length, 8), Model.big(8L * text.length, 8));
        BigInteger h = polynomial(cipher(key, new byte[16]));
        BigInteger y = BigInteger.ZERO;
        for (int i = 0; i < all.length; i += 16) {
            y = product(y.xor(polynomial(Arrays.copyOfRange(all, i, i + 16))), h);
        }
        return Model.cat(locked, xor(cipher(key, Model.cat(nonce, Model.big(1, 4))), blockOf(y)));
    }

    // ---- NUMBER 3

    private static void quarter(int[] x, int a, int b, int c, int d) {
        x[a] += x[b];
        x[d] = Integer.rotateLeft(x[d] ^ x[a], 16);
        x[c] += x[d];
        x[b] = Integer.rotateLeft(x[b] ^ x[c], 12);
        x[a] += x[b];
        x[d] = Integer.rotateLeft(x[d] ^ x[a], 8);
        x[c] += x[d];
        x[b] = Integer.rotateLeft(x[b] ^ x[c], 7);
    }

    private static byte[] stream(byte[] key, byte[] nonce, int n) {
        int[][] quarters = {{0, 4, 8, 12}, {1, 5, 9, 13}, {2, 6, 10, 14}, {3, 7, 11, 15}, {0, 5, 10, 15}, {1, 6, 11, 12}, {2, 7, 8, 13}, {3, 4, 9, 14}};
        byte[] first = Model.cat(Model.text("expand 32-byte k"), key, Model.littleBytes(BigInteger.valueOf(n), 4), nonce);
        int[] were = new int[16];
        for (int i = 0; i < 16; i++) {
            were[i] = Model.little(Arrays.copyOfRange(first, 4 * i, 4 * i + 4)).intValue();
        }
        int[] now = were.clone();
        for (int i = 0; i < 10; i++) {
            for (int[] q : quarters) {
                quarter(now, q[0], q[1], q[2], q[3]);
            }
        }
        byte[] out = {};
        for (int i = 0; i < 16; i++) {
            out = Model.cat(out, Model.littleBytes(BigInteger.valueOf(now[i] + were[i]), 4));
        }
        return out;
    }

    private static byte[] lockByStream(byte[] key, byte[] nonce, byte[] aad, byte[] text) {
        byte[] stream = {};
        for (int n = 1; stream.length < text.length; n++) {
            stream = Model.cat(stream, stream(key, nonce, n));
        }
        byte[] locked = xor(text, stream);
        byte[] once = stream(key, nonce, 0);
        BigInteger r = Model.little(Arrays.copyOf(once, 16));
        for (int high : new int[] {3, 7, 11, 15}) {
            r = r.andNot(BigInteger.valueOf(0b11110000).shiftLeft(8 * high));
        }
        for (int low : new int[] {4, 8, 12}) {
            r = r.andNot(BigInteger.valueOf(0b11).shiftLeft(8 * low));
        }
        byte[] all = Model.cat(filled(aad), filled(locked), Model.littleBytes(BigInteger.valueOf(aad.length), 8),
                Model.littleBytes(BigInteger.valueOf(text.length), 8));
        BigInteger v = BigInteger.ZERO;
        for (int i = 0; i < all.length; i += 16) {
            v = v.add(ONE.shiftLeft(128)).add(Model.little(Arrays.copyOfRange(all, i, i + 16))).multiply(r).mod(MODULUS_130);
        }
        return Model.cat(locked, Model.littleBytes(v.add(Model.little(Arrays.copyOfRange(once, 16, 32))), 16));
    }

    static byte[] lock(int number, byte[] key, byte[] nonce, byte[] aad, byte[] text) {
        return number == 3 ? lockByStream(key, nonce, aad, text) : lockByBlocks(key, nonce, aad, text);
    }
}
