import java.util.Random;

/**
 * "Terms" 1 and 3, for promises 9, 10, 15 and 16: the class, and the model that the other tests compare with, against the
 * document's words themselves. The agreement and "Terms" 4 are put down word by word in the model.
 */
public final class WordsTest {
    private static final Checks checks = new Checks();
    private static final int[] EDGES = {0, 1, 15, 16, 17, 31, 32, 33, 55, 56, 57, 63, 64, 65, 111, 112, 113, 127, 128, 129, 239, 240, 284};

    public static void main(String[] args) {
        Random random = new Random(3);
        for (int n : EDGES) {
            hashes(random, n);
            for (int other : new int[] {0, 1, 16, 17, 65, 300}) {
                locks(random, n, other);
            }
        }
        hashes(random, 300);
        checks.end("WordsTest");
    }

    private static byte[] next(Random random, int n) {
        byte[] out = new byte[n];
        random.nextBytes(out);
        return out;
    }

    private static void hashes(Random random, int n) {
        byte[] row = next(random, n);
        byte[] other = next(random, random.nextInt(40));
        for (int kind = 1; kind <= 3; kind += 2) {
            Sealer x = new Sealer();
            x.fill(0, Checks.hex(row));
            x.fill(1, Checks.hex(other));
            String hash = Checks.hex(Words.hash(kind, row));
            checks.due("hash " + kind, x.hash(kind, 2, 0), hash.length() / 2);
            checks.due("hash " + kind + " of " + n, x.read(2), hash);
            checks.due("the model's hash " + kind + " of " + n, Checks.hex(Model.digest(kind, row)), hash);
            String mac = Checks.hex(Words.mac(kind, row, other));
            checks.due("mac " + kind, x.mac(kind, 3, 0, 1), mac.length() / 2);
            checks.due("mac " + kind + " by a key of " + n, x.read(3), mac);
            checks.due("the model's mac " + kind + " by a key of " + n, Checks.hex(Model.keyed(kind, row, other)), mac);
        }
    }

    private static void locks(Random random, int n, int other) {
        for (int number = 1; number <= 3; number++) {
            byte[] key = next(random, number == 1 ? 16 : 32);
            byte[] nonce = next(random, 12);
            byte[] aad = next(random, other);
            byte[] text = next(random, n);
            Sealer x = new Sealer();
            x.fill(0, Checks.hex(key));
            x.fill(1, Checks.hex(nonce));
            x.fill(2, Checks.hex(aad));
            x.fill(3, Checks.hex(text));
            byte[] locked = Words.lock(number, key, nonce, aad, text);
            String what = number + " of " + n + " with " + other;
            checks.due("lock " + what, x.lock(number, 4, 0, 1, 2, 3), n + 16);
            checks.due("locked " + what, x.read(4), Checks.hex(locked));
            checks.due("unlock " + what, x.unlock(number, 5, 0, 1, 2, 4), n);
            checks.due("unlocked " + what, x.read(5), Checks.hex(text));
            checks.due("the model's lock " + what, Checks.hex(Model.locked(number, key, nonce, aad, text)), Checks.hex(locked));
        }
    }
}
