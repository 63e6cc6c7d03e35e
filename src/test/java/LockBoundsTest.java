/** Promises 15 and 16 at their bounds: one method a sentence, which stands above it. */
public final class LockBoundsTest {
    private static final Checks checks = new Checks();
    private static final int KEY = 1, NONCE = 2, AAD = 3, TEXT = 4, LOCKED = 5, BACK = 6;

    public static void main(String[] args) {
        for (int cipher = 1; cipher <= 3; cipher++) {
            outermostRegisters(cipher);
            textLengths(cipher);
            aadLengths(cipher);
            zerosDoNotStandForBytes(cipher);
            lowestAndHighestBytes(cipher);
            lockFull(cipher);
            unlockShort(cipher);
            unlockLongest(cipher);
            unlockTurned(cipher);
            lengthsOfKeyAndNonce(cipher);
            noRegisters(cipher);
        }
        numbers();
        checks.end("LockBoundsTest");
    }

    private static int keyBytes(int cipher) {
        return cipher == 1 ? 16 : 32;
    }

    private static Desk desk(int cipher, int aad, int text) {
        return new Desk().fill(KEY, Checks.rising(40, keyBytes(cipher))).fill(NONCE, Checks.rising(90, 12))
                .fill(AAD, Checks.rising(3, aad)).fill(TEXT, Checks.rising(150, text)).fill(BACK, "99");
    }

    private static String locked(int cipher, String aad, String text) {
        return Checks.hex(Model.locked(cipher, Checks.bytes(Checks.rising(40, keyBytes(cipher))), Checks.bytes(Checks.rising(90, 12)),
                Checks.bytes(aad), Checks.bytes(text)));
    }

    private static void lockAndUnlock(int cipher, int aad, int text) {
        Desk desk = desk(cipher, aad, text);
        String what = cipher + " with aad " + aad + ", text " + text;
        checks.due("lock " + what, desk.call(x -> x.lock(cipher, LOCKED, KEY, NONCE, AAD, TEXT)), text + 16);
        checks.due("locked " + what, desk.read(LOCKED), locked(cipher, Checks.rising(3, aad), Checks.rising(150, text)));
        checks.due("unlock " + what, desk.call(x -> x.unlock(cipher, BACK, KEY, NONCE, AAD, LOCKED)), text);
        checks.due("unlocked " + what, desk.read(BACK), Checks.rising(150, text));
    }

    /** "REGISTERS 0 .. 15": each place of the calls takes the first and the last. */
    private static void outermostRegisters(int cipher) {
        String want = locked(cipher, Checks.rising(3, 5), Checks.rising(150, 20));
        for (int r : new int[] {0, 15}) {
            for (int place = 0; place < 5; place++) {
                int[] at = {LOCKED, KEY, NONCE, AAD, TEXT};
                int from = at[place];
                at[place] = r;
                Desk desk = desk(cipher, 5, 20);
                int size = desk.ask(x -> x.size(from));
                desk.call(x -> x.copy(r, from, 0, size));
                checks.due("lock by " + r, desk.call(x -> x.lock(cipher, at[0], at[1], at[2], at[3], at[4])), 36);
                checks.due("locked", desk.read(at[0]), want);
                checks.due("unlock by " + r, desk.call(x -> x.unlock(cipher, at[4], at[1], at[2], at[3], at[0])), 20);
                checks.due("unlocked", desk.read(at[4]), Checks.rising(150, 20));
            }
        }
    }

    /** "as long as the text and 16 more", around each block of either cipher and at both ends. */
    private static void textLengths(int cipher) {
        int[] lengths = {0, 1, 15, 16, 17, 31, 32, 33, 63, 64, 65, 127, 128, 129, 191, 192, 193, 255, 256, 257, 283, 284};
        for (int n : lengths) {
            lockAndUnlock(cipher, 5, n);
        }
    }

    private static void aadLengths(int cipher) {
        for (int n : new int[] {0, 1, 15, 16, 17, 31, 32, 33, 63, 64, 65, 299, 300}) {
            lockAndUnlock(cipher, n, 0);
            lockAndUnlock(cipher, n, 20);
        }
        lockAndUnlock(cipher, 0, 284);
        lockAndUnlock(cipher, 300, 284);
    }

    /** "aad, zeros to a multiple of 16, the locked text, zeros likewise", then both lengths: a zero more is another aad. */
    private static void zerosDoNotStandForBytes(int cipher) {
        for (int n : new int[] {0, 1, 14, 15, 16, 17, 299}) {
            Desk desk = desk(cipher, n, 20);
            desk.call(x -> x.lock(cipher, LOCKED, KEY, NONCE, AAD, TEXT));
            desk.call(x -> x.add(AAD, 1, 0));
            checks.due("unlock with a zero behind the aad", desk.call(x -> x.unlock(cipher, BACK, KEY, NONCE, AAD, LOCKED)), KeySealer.REFUSED);
            checks.due("nothing was unlocked", desk.read(BACK), "99");
        }
    }

    /** Keys, nonces, aads and texts of 0s alone and of all bits, around a block. */
    private static void lowestAndHighestBytes(int cipher) {
        for (int bits = 0; bits < 16; bits++) {
            for (int n : new int[] {1, 8, 15, 16, 17, 32}) {
                String key = Checks.same((bits & 1) * 255, keyBytes(cipher));
                String nonce = Checks.same((bits >> 1 & 1) * 255, 12);
                String aad = Checks.same((bits >> 2 & 1) * 255, n);
                String text = Checks.same((bits >> 3) * 255, n);
                Desk desk = new Desk().fill(KEY, key).fill(NONCE, nonce).fill(AAD, aad).fill(TEXT, text);
                desk.call(x -> x.lock(cipher, LOCKED, KEY, NONCE, AAD, TEXT));
                checks.due("locked by " + cipher + ", " + key + " " + nonce + " " + aad + " " + text, desk.read(LOCKED),
                        Checks.hex(Model.locked(cipher, Checks.bytes(key), Checks.bytes(nonce), Checks.bytes(aad), Checks.bytes(text))));
            }
        }
    }

    /** 15: "FULL": 284 bytes are the most. */
    private static void lockFull(int cipher) {
        for (int n : new int[] {285, 286, 299, 300}) {
            Refusals refusals = new Refusals(checks, () -> desk(cipher, 300, n));
            for (int to : new int[] {0, TEXT, AAD, KEY}) {
                refusals.due("lock " + n + " to " + to, KeySealer.FULL, x -> x.lock(cipher, to, KEY, NONCE, AAD, TEXT));
            }
        }
    }

    /** 16: "REFUSED: there are fewer than 16 bytes". */
    private static void unlockShort(int cipher) {
        String tag = locked(cipher, Checks.rising(3, 5), "");
        for (int n = 0; n <= 15; n++) {
            int many = n;
            Refusals refusals = new Refusals(checks, () -> desk(cipher, 5, 0).fill(LOCKED, tag.substring(0, 2 * many)));
            refusals.due("unlock " + n, KeySealer.REFUSED, x -> x.unlock(cipher, BACK, KEY, NONCE, AAD, LOCKED));
        }
        Desk desk = desk(cipher, 5, 0).fill(LOCKED, tag);
        checks.due("unlock 16", desk.call(x -> x.unlock(cipher, BACK, KEY, NONCE, AAD, LOCKED)), 0);
        checks.due("unlocked", desk.read(BACK), "");
        Desk more = desk(cipher, 5, 0).fill(LOCKED, tag + "00");
        checks.due("unlock 17", more.call(x -> x.unlock(cipher, BACK, KEY, NONCE, AAD, LOCKED)), KeySealer.REFUSED);
        checks.due("nothing was unlocked", more.read(BACK), "99");
    }

    private static void unlockLongest(int cipher) {
        String row = Checks.rising(150, 284);
        Desk desk = desk(cipher, 5, 0).fill(LOCKED, locked(cipher, Checks.rising(3, 5), row));
        checks.due("unlock 300", desk.call(x -> x.unlock(cipher, LOCKED, KEY, NONCE, AAD, LOCKED)), 284);
        checks.due("unlocked", desk.read(LOCKED), row);
        Desk other = desk(cipher, 5, 0).fill(LOCKED, Checks.rising(0, 300));
        checks.due("unlock 300 others", other.call(x -> x.unlock(cipher, LOCKED, KEY, NONCE, AAD, LOCKED)), KeySealer.REFUSED);
        checks.due("nothing was unlocked", other.read(LOCKED), Checks.rising(0, 300));
    }

    private static void refusedAfterTurn(int cipher, int r, int i, int bit) {
        Desk desk = desk(cipher, 5, 20);
        desk.call(x -> x.lock(cipher, LOCKED, KEY, NONCE, AAD, TEXT));
        desk.call(x -> x.turn(r, i, bit));
        String what = "unlock with bit " + bit + " of byte " + i + " of " + r + " turned";
        checks.due(what, desk.call(x -> x.unlock(cipher, BACK, KEY, NONCE, AAD, LOCKED)), KeySealer.REFUSED);
        checks.due("nothing was unlocked", desk.read(BACK), "99");
    }

    /** 16: "or the TAG is another one": by each of its bits, and by whatever it is made from. */
    private static void unlockTurned(int cipher) {
        for (int i = 0; i < 36; i++) {
            for (int bit = 0; bit <= 7; bit++) {
                refusedAfterTurn(cipher, LOCKED, i, bit);
            }
        }
        for (int bit = 0; bit <= 7; bit++) {
            refusedAfterTurn(cipher, KEY, 0, bit);
            refusedAfterTurn(cipher, KEY, keyBytes(cipher) - 1, bit);
            refusedAfterTurn(cipher, NONCE, 0, bit);
            refusedAfterTurn(cipher, NONCE, 11, bit);
            refusedAfterTurn(cipher, AAD, 0, bit);
            refusedAfterTurn(cipher, AAD, 4, bit);
        }
    }

    /** 15, 16: "BAD: .. key or nonce of other lengths": one byte less, one more, the other cipher's, none and all. */
    private static void lengthsOfKeyAndNonce(int cipher) {
        for (int n : new int[] {0, 1, 15, 16, 17, 24, 31, 32, 33, 300}) {
            if (n != keyBytes(cipher)) {
                Refusals refusals = new Refusals(checks, () -> desk(cipher, 5, 20).fill(KEY, Checks.rising(40, n)));
                refusals.bad("lock by a key of " + n, x -> x.lock(cipher, BACK, KEY, NONCE, AAD, TEXT));
                refusals.bad("unlock by a key of " + n, x -> x.unlock(cipher, BACK, KEY, NONCE, AAD, TEXT));
            }
        }
        for (int n : new int[] {0, 1, 8, 11, 13, 16, 300}) {
            Refusals refusals = new Refusals(checks, () -> desk(cipher, 5, 20).fill(NONCE, Checks.rising(90, n)));
            refusals.bad("lock with a nonce of " + n, x -> x.lock(cipher, BACK, KEY, NONCE, AAD, TEXT));
            refusals.bad("unlock with a nonce of " + n, x -> x.unlock(cipher, BACK, KEY, NONCE, AAD, TEXT));
        }
    }

    private static void noRegisters(int cipher) {
        Refusals refusals = new Refusals(checks, () -> {
            Desk desk = desk(cipher, 5, 20);
            desk.call(x -> x.lock(cipher, LOCKED, KEY, NONCE, AAD, TEXT));
            return desk;
        });
        refusals.bad("lock to", Refusals.NO_REGISTERS, (x, r) -> x.lock(cipher, r, KEY, NONCE, AAD, TEXT));
        refusals.bad("lock key", Refusals.NO_REGISTERS, (x, r) -> x.lock(cipher, BACK, r, NONCE, AAD, TEXT));
        refusals.bad("lock nonce", Refusals.NO_REGISTERS, (x, r) -> x.lock(cipher, BACK, KEY, r, AAD, TEXT));
        refusals.bad("lock aad", Refusals.NO_REGISTERS, (x, r) -> x.lock(cipher, BACK, KEY, NONCE, r, TEXT));
        refusals.bad("lock text", Refusals.NO_REGISTERS, (x, r) -> x.lock(cipher, BACK, KEY, NONCE, AAD, r));
        refusals.bad("unlock to", Refusals.NO_REGISTERS, (x, r) -> x.unlock(cipher, r, KEY, NONCE, AAD, LOCKED));
        refusals.bad("unlock key", Refusals.NO_REGISTERS, (x, r) -> x.unlock(cipher, BACK, r, NONCE, AAD, LOCKED));
        refusals.bad("unlock nonce", Refusals.NO_REGISTERS, (x, r) -> x.unlock(cipher, BACK, KEY, r, AAD, LOCKED));
        refusals.bad("unlock aad", Refusals.NO_REGISTERS, (x, r) -> x.unlock(cipher, BACK, KEY, NONCE, r, LOCKED));
        refusals.bad("unlock text", Refusals.NO_REGISTERS, (x, r) -> x.unlock(cipher, BACK, KEY, NONCE, AAD, r));
    }

    /** "by a cipher's number (1, 2, 3)", "NUMBER 255: there is none (KEY 0, no nonce)": it locks nothing, whatever its key. */
    private static void numbers() {
        for (int key : new int[] {Desk.EMPTY, Desk.SHORT_KEY, Desk.OWN}) {
            for (int nonce : new int[] {Desk.EMPTY, Desk.NONCE}) {
                Refusals refusals = new Refusals(checks, Desk::registers);
                refusals.bad("lock by number", Refusals.NO_CIPHERS, (x, n) -> x.lock(n, Desk.SPARE, key, nonce, Desk.INFO, Desk.SHORT_KEY));
                refusals.bad("unlock by number", Refusals.NO_CIPHERS, (x, n) -> x.unlock(n, Desk.SPARE, key, nonce, Desk.INFO, Desk.SHORT_KEY));
            }
        }
    }
}
