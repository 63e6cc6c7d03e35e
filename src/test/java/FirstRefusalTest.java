/** "Where a call lists several refusals the first one counts, and nothing is done": calls for which two or three hold at once. */
public final class FirstRefusalTest {
    private static final Checks checks = new Checks();
    private static final int[] NO_REGISTERS = Refusals.NO_REGISTERS;
    /** No register, or one that has neither 32 bytes nor 16. */
    private static final int[] NO_KEYS = {-1, 16, Desk.EMPTY, Desk.BYTES_31, Desk.BYTES_33, Desk.FULL};

    public static void main(String[] args) {
        add();
        join();
        at();
        agree();
        lock();
        unlock();
        senderBadBeforeShared();
        senderBadBeforeInvalid();
        senderSharedBeforeInvalid();
        receiverBadBeforeShared();
        receiverBadBeforeInvalid();
        receiverSharedBeforeInvalid();
        lastingBeforeShared();
        sealBadBeforeLimitAndFull();
        sealLimitBeforeFull();
        unsealBadBeforeLimitAndRefused();
        unsealLimitBeforeRefused();
        checks.end("FirstRefusalTest");
    }

    private static Refusals after(Desk desk) {
        return new Refusals(checks, desk::fork);
    }

    /** 2: "BAD: register, n; FULL." */
    private static void add() {
        Refusals full = after(Desk.contexts());
        full.bad("add to a full one, n", new int[] {0, 9, -1, 301, Integer.MIN_VALUE, Integer.MAX_VALUE}, (x, n) -> x.add(Desk.FULL, n, 1));
        full.bad("add too many to none, register", NO_REGISTERS, (x, r) -> x.add(r, 301, 1));
    }

    /** 5: "BAD; FULL." */
    private static void join() {
        Refusals full = after(Desk.contexts());
        full.bad("join a full one to", NO_REGISTERS, (x, r) -> x.join(r, Desk.FULL));
        full.bad("join to a full one from", NO_REGISTERS, (x, r) -> x.join(Desk.FULL, r));
    }

    /** 8: there is no byte where there is no register, which is BAD. */
    private static void at() {
        for (int i : new int[] {-1, 0, 299, 300, Integer.MIN_VALUE, Integer.MAX_VALUE}) {
            after(Desk.registers()).bad("at " + i + " of", NO_REGISTERS, (x, r) -> x.at(r, i));
        }
    }

    /** 12: "BAD: ..; INVALID: it is 32* zeros." */
    private static void agree() {
        Refusals zeros = after(Desk.contexts().fill(Desk.SPARE, Checks.same(0, 31)));
        zeros.bad("agree on zeros to", NO_REGISTERS, (x, r) -> x.agree(r, Desk.OWN, Desk.ZEROS));
        zeros.bad("agree on zeros by", NO_KEYS, (x, r) -> x.agree(Desk.INFO, r, Desk.ZEROS));
        zeros.bad("agree with 31 zeros", x -> x.agree(Desk.INFO, Desk.OWN, Desk.SPARE));
        zeros.due("agree on zeros", KeySealer.INVALID, x -> x.agree(Desk.INFO, Desk.OWN, Desk.ZEROS));
        after(Desk.contexts().fill(Desk.SPARE, Checks.same(0, 33))).bad("agree with 33 zeros", x -> x.agree(Desk.INFO, Desk.OWN, Desk.SPARE));
    }

    private static int keyOf(int cipher) {
        return cipher == 1 ? Desk.SHORT_KEY : Desk.OWN;
    }

    /** 15: "BAD: number, registers, key or nonce of other lengths; FULL." */
    private static void lock() {
        Refusals full = after(Desk.registers());
        for (int c = 1; c <= 3; c++) {
            int cipher = c;
            int key = keyOf(c);
            int other = c == 1 ? Desk.OWN : Desk.SHORT_KEY;
            full.bad("lock too much to", NO_REGISTERS, (x, r) -> x.lock(cipher, r, key, Desk.NONCE, Desk.INFO, Desk.FULL));
            full.bad("lock too much by", NO_KEYS, (x, r) -> x.lock(cipher, Desk.INFO, r, Desk.NONCE, Desk.INFO, Desk.FULL));
            full.bad("lock too much by another's key", x -> x.lock(cipher, Desk.INFO, other, Desk.NONCE, Desk.INFO, Desk.FULL));
            full.bad("lock too much with", new int[] {-1, 16, Desk.EMPTY, Desk.INFO, Desk.SHORT_KEY, Desk.FULL},
                    (x, r) -> x.lock(cipher, Desk.INFO, key, r, Desk.INFO, Desk.FULL));
            full.bad("lock too much with aad", NO_REGISTERS, (x, r) -> x.lock(cipher, Desk.INFO, key, Desk.NONCE, r, Desk.FULL));
            full.due("lock too much", KeySealer.FULL, x -> x.lock(cipher, Desk.INFO, key, Desk.NONCE, Desk.INFO, Desk.FULL));
        }
        full.bad("lock too much by number", Refusals.NO_CIPHERS, (x, n) -> x.lock(n, Desk.INFO, Desk.OWN, Desk.NONCE, Desk.INFO, Desk.FULL));
    }

    /** 16: "BAD: number, registers, key or nonce of other lengths; REFUSED": too short, and of another TAG. */
    private static void unlock() {
        Refusals refused = after(Desk.registers());
        for (int text : new int[] {Desk.EMPTY, Desk.INFO, Desk.FULL}) {
            for (int c = 1; c <= 3; c++) {
                int cipher = c;
                int key = keyOf(c);
                int other = c == 1 ? Desk.OWN : Desk.SHORT_KEY;
                refused.bad("unlock to", NO_REGISTERS, (x, r) -> x.unlock(cipher, r, key, Desk.NONCE, Desk.INFO, text));
                refused.bad("unlock by", NO_KEYS, (x, r) -> x.unlock(cipher, Desk.INFO, r, Desk.NONCE, Desk.INFO, text));
                refused.bad("unlock by another's key", x -> x.unlock(cipher, Desk.INFO, other, Desk.NONCE, Desk.INFO, text));
                refused.bad("unlock with", new int[] {-1, 16, Desk.EMPTY, Desk.INFO, Desk.SHORT_KEY, Desk.FULL},
                        (x, r) -> x.unlock(cipher, Desk.INFO, key, r, Desk.INFO, text));
                refused.bad("unlock with aad", NO_REGISTERS, (x, r) -> x.unlock(cipher, Desk.INFO, key, Desk.NONCE, r, text));
                refused.due("unlock", KeySealer.REFUSED, x -> x.unlock(cipher, Desk.INFO, key, Desk.NONCE, Desk.INFO, text));
            }
            refused.bad("unlock by number", Refusals.NO_CIPHERS, (x, n) -> x.unlock(n, Desk.INFO, Desk.OWN, Desk.NONCE, Desk.INFO, text));
        }
    }

    // ---- 18: "BAD: ..; SHARED: ..; INVALID: .."

    /** Each cause of BAD for a sender for another's public key, whatever else holds. */
    private static void senderBad(Refusals each, int mode, int other) {
        each.bad("sender", Refusals.NO_CONTEXTS, (x, c) -> x.sender(c, mode, 1, 1, Desk.INFO, Desk.OWN, other));
        each.bad("sender of mode", Refusals.NO_MODES, (x, m) -> x.sender(0, m, 1, 1, Desk.INFO, Desk.OWN, other));
        each.bad("sender of kind", Refusals.NO_KINDS, (x, k) -> x.sender(0, mode, k, 1, Desk.INFO, Desk.OWN, other));
        each.bad("sender by cipher", new int[] {0, 4, 254, 256, 65535, -1}, (x, n) -> x.sender(0, mode, 1, n, Desk.INFO, Desk.OWN, other));
        each.bad("sender to", NO_REGISTERS, (x, r) -> x.sender(0, mode, 1, 1, r, Desk.OWN, other));
        each.bad("sender with", NO_KEYS, (x, r) -> x.sender(0, mode, 1, 1, Desk.INFO, r, other));
    }

    /** Desks where the shared key and its name are not as the mode must have them. */
    private static Desk wronglyShared(int mode) {
        return mode == 1 || mode == 3 ? Desk.contexts() : Desk.sharing();
    }

    private static Desk rightlyShared(int mode) {
        return mode == 1 || mode == 3 ? Desk.sharing() : Desk.contexts();
    }

    private static void senderBadBeforeShared() {
        for (int mode = 0; mode <= 3; mode++) {
            int m = mode;
            Refusals each = after(wronglyShared(mode));
            senderBad(each, mode, Desk.THEIR_PUBLIC);
            each.bad("sender for", NO_KEYS, (x, r) -> x.sender(0, m, 1, 1, Desk.INFO, Desk.OWN, r));
            each.due("sender", KeySealer.SHARED, x -> x.sender(0, m, 1, 1, Desk.INFO, Desk.OWN, Desk.THEIR_PUBLIC));
        }
    }

    private static void senderBadBeforeInvalid() {
        for (int mode = 0; mode <= 3; mode++) {
            int m = mode;
            Refusals each = after(rightlyShared(mode));
            senderBad(each, mode, Desk.ZEROS);
            each.due("sender", KeySealer.INVALID, x -> x.sender(0, m, 1, 1, Desk.INFO, Desk.OWN, Desk.ZEROS));
        }
    }

    private static void senderSharedBeforeInvalid() {
        for (int mode = 0; mode <= 3; mode++) {
            int m = mode;
            Refusals each = after(wronglyShared(mode));
            senderBad(each, mode, Desk.ZEROS);
            each.due("sender", KeySealer.SHARED, x -> x.sender(0, m, 1, 1, Desk.INFO, Desk.OWN, Desk.ZEROS));
        }
    }

    // ---- 19: "Likewise."

    private static void receiverBad(Refusals each, int mode, int got) {
        each.bad("receiver", Refusals.NO_CONTEXTS, (x, c) -> x.receiver(c, mode, 1, 1, got, Desk.THEIRS));
        each.bad("receiver of mode", Refusals.NO_MODES, (x, m) -> x.receiver(1, m, 1, 1, got, Desk.THEIRS));
        each.bad("receiver of kind", Refusals.NO_KINDS, (x, k) -> x.receiver(1, mode, k, 1, got, Desk.THEIRS));
        each.bad("receiver by cipher", new int[] {0, 4, 254, 256, 65535, -1}, (x, n) -> x.receiver(1, mode, 1, n, got, Desk.THEIRS));
        each.bad("receiver with", NO_KEYS, (x, r) -> x.receiver(1, mode, 1, 1, got, r));
    }

    private static void receiverBadBeforeShared() {
        for (int mode = 0; mode <= 3; mode++) {
            int m = mode;
            Refusals each = after(wronglyShared(mode));
            receiverBad(each, mode, Desk.THEIR_PUBLIC);
            each.bad("receiver of", NO_KEYS, (x, r) -> x.receiver(1, m, 1, 1, r, Desk.THEIRS));
            each.due("receiver", KeySealer.SHARED, x -> x.receiver(1, m, 1, 1, Desk.THEIR_PUBLIC, Desk.THEIRS));
        }
    }

    /** By what it got, and in modes 2, 3 by the lasting public key. */
    private static void receiverBadBeforeInvalid() {
        for (int mode = 0; mode <= 3; mode++) {
            int m = mode;
            Refusals each = after(rightlyShared(mode));
            receiverBad(each, mode, Desk.ZEROS);
            each.due("receiver", KeySealer.INVALID, x -> x.receiver(1, m, 1, 1, Desk.ZEROS, Desk.THEIRS));
            if (mode >= 2) {
                Refusals lasting = after(lastingZeros(rightlyShared(mode)));
                receiverBad(lasting, mode, Desk.THEIR_PUBLIC);
                lasting.bad("receiver of", NO_KEYS, (x, r) -> x.receiver(1, m, 1, 1, r, Desk.THEIRS));
                lasting.due("receiver", KeySealer.INVALID, x -> x.receiver(1, m, 1, 1, Desk.THEIR_PUBLIC, Desk.THEIRS));
            }
        }
    }

    private static Desk lastingZeros(Desk desk) {
        desk.call(x -> x.use(4, Desk.ZEROS));
        return desk;
    }

    private static void receiverSharedBeforeInvalid() {
        for (int mode = 0; mode <= 3; mode++) {
            int m = mode;
            Refusals each = after(wronglyShared(mode));
            receiverBad(each, mode, Desk.ZEROS);
            each.due("receiver", KeySealer.SHARED, x -> x.receiver(1, m, 1, 1, Desk.ZEROS, Desk.THEIRS));
            Refusals lasting = after(lastingZeros(wronglyShared(mode)));
            lasting.due("receiver", KeySealer.SHARED, x -> x.receiver(1, m, 1, 1, Desk.THEIR_PUBLIC, Desk.THEIRS));
        }
    }

    /** A lasting key that has not 32 bytes is BAD, before what is shared and before zeros. */
    private static void lastingBeforeShared() {
        for (int mode = 2; mode <= 3; mode++) {
            int m = mode;
            for (int r : new int[] {KeySealer.NONE, Desk.EMPTY, Desk.BYTES_31, Desk.BYTES_33, Desk.FULL}) {
                for (Desk desk : new Desk[] {wronglyShared(mode), rightlyShared(mode)}) {
                    desk.call(x -> x.use(3, r));
                    desk.call(x -> x.use(4, r));
                    Refusals each = after(desk);
                    for (int other : new int[] {Desk.THEIR_PUBLIC, Desk.ZEROS}) {
                        each.bad("sender, lasting key in " + r, x -> x.sender(0, m, 1, 1, Desk.INFO, Desk.OWN, other));
                        each.bad("receiver, lasting public key in " + r, x -> x.receiver(1, m, 1, 1, other, Desk.THEIRS));
                    }
                }
            }
        }
    }

    // ---- 20: "BAD: it is none, has CIPHER 255, registers; LIMIT; FULL." 21: "..; LIMIT; REFUSED"

    private static Desk atEnd() {
        Desk desk = Desk.contexts();
        for (int i = 0; i <= 2; i++) {
            int c = i;
            desk.call(x -> x.sequence(c, -1, -1, -1));
        }
        return desk;
    }

    private static void sealBadBeforeLimitAndFull() {
        for (Desk desk : new Desk[] {Desk.contexts(), atEnd()}) {
            Refusals each = after(desk);
            for (int text : new int[] {Desk.NAME, Desk.FULL}) {
                each.bad("seal by", new int[] {Desk.RECEIVER, Desk.WITHOUT_CIPHER, Desk.NO_CONTEXT, -1, 4},
                        (x, c) -> x.seal(c, Desk.INFO, Desk.NAME, text));
                each.bad("seal to", NO_REGISTERS, (x, r) -> x.seal(Desk.SENDER, r, Desk.NAME, text));
                each.bad("seal aad", NO_REGISTERS, (x, r) -> x.seal(Desk.SENDER, Desk.INFO, r, text));
            }
            each.bad("seal text", NO_REGISTERS, (x, r) -> x.seal(Desk.SENDER, Desk.INFO, Desk.NAME, r));
        }
    }

    private static void sealLimitBeforeFull() {
        Refusals end = after(atEnd());
        for (int text : new int[] {Desk.EMPTY, Desk.NAME, Desk.FULL}) {
            end.due("seal " + text, KeySealer.LIMIT, x -> x.seal(Desk.SENDER, Desk.INFO, Desk.NAME, text));
        }
        after(Desk.contexts()).due("seal too much", KeySealer.FULL, x -> x.seal(Desk.SENDER, Desk.INFO, Desk.NAME, Desk.FULL));
    }

    private static void unsealBadBeforeLimitAndRefused() {
        for (Desk desk : new Desk[] {Desk.contexts(), atEnd()}) {
            Refusals each = after(desk);
            for (int text : new int[] {Desk.NAME, Desk.FULL}) {
                each.bad("unseal by", new int[] {Desk.SENDER, Desk.WITHOUT_CIPHER, Desk.NO_CONTEXT, -1, 4},
                        (x, c) -> x.unseal(c, Desk.INFO, Desk.NAME, text));
                each.bad("unseal to", NO_REGISTERS, (x, r) -> x.unseal(Desk.RECEIVER, r, Desk.NAME, text));
                each.bad("unseal aad", NO_REGISTERS, (x, r) -> x.unseal(Desk.RECEIVER, Desk.INFO, r, text));
            }
            each.bad("unseal text", NO_REGISTERS, (x, r) -> x.unseal(Desk.RECEIVER, Desk.INFO, Desk.NAME, r));
        }
    }

    private static void unsealLimitBeforeRefused() {
        Refusals end = after(atEnd());
        for (int text : new int[] {Desk.EMPTY, Desk.NAME, Desk.FULL}) {
            end.due("unseal " + text, KeySealer.LIMIT, x -> x.unseal(Desk.RECEIVER, Desk.INFO, Desk.NAME, text));
        }
        after(Desk.contexts()).due("unseal", KeySealer.REFUSED, x -> x.unseal(Desk.RECEIVER, Desk.INFO, Desk.NAME, Desk.FULL));
    }
}
