import java.util.function.ToIntFunction;

/**
 * "Calls may name one register several times: what they give comes last." Each call is made with one register for several
 * places and, on another object, with registers apart that have the same bytes: both give the same.
 */
public final class OneRegisterTest {
    private static final Checks checks = new Checks();
    private static final int ONE = 0, APART = 15;

    public static void main(String[] args) {
        registers();
        below();
        pair();
        lock();
        unlock();
        sender();
        receiver();
        sealAndUnseal();
        exportAndSecret();
        checks.end("OneRegisterTest");
    }

    /** What came to one register by a call that also reads it, and to another one by the call that does not. */
    private static void same(String what, String row, ToIntFunction<KeySealer> inOne, ToIntFunction<KeySealer> apart) {
        Desk first = Desk.contexts().fill(ONE, row);
        Desk second = Desk.contexts().fill(ONE, row);
        checks.due(what, first.call(inOne), second.call(apart));
        checks.due(what + " gives", first.read(ONE), second.read(APART));
        checks.due(what + " reads only", second.read(ONE), row);
    }

    private static void registers() {
        for (int n : new int[] {0, 1, 150, 300}) {
            String row = Checks.rising(9, n);
            for (int begin = 0; begin <= n; begin += 50) {
                int place = begin;
                same("copy from " + begin, row, x -> x.copy(ONE, ONE, place, n - place), x -> x.copy(APART, ONE, place, n - place));
            }
            same("copy nothing", row, x -> x.copy(ONE, ONE, n, 0), x -> x.copy(APART, ONE, n, 0));
        }
    }

    private static void below() {
        for (int n : new int[] {0, 1, 32, 64, 65, 128, 129, 300}) {
            String row = Checks.rising(9, n);
            for (int k = 1; k <= 3; k += 2) {
                int kind = k;
                same("hash", row, x -> x.hash(kind, ONE, ONE), x -> x.hash(kind, APART, ONE));
                same("mac", row, x -> x.mac(kind, ONE, ONE, ONE), x -> x.mac(kind, APART, ONE, ONE));
                same("mac by key", row, x -> x.mac(kind, ONE, ONE, Desk.INFO), x -> x.mac(kind, APART, ONE, Desk.INFO));
                same("mac of text", row, x -> x.mac(kind, ONE, Desk.INFO, ONE), x -> x.mac(kind, APART, Desk.INFO, ONE));
                for (int m : new int[] {0, 1, 32, 33, 300}) {
                    same("expand", row, x -> x.expand(kind, ONE, ONE, ONE, m), x -> x.expand(kind, APART, ONE, ONE, m));
                    same("expand a key", row, x -> x.expand(kind, ONE, ONE, Desk.INFO, m), x -> x.expand(kind, APART, ONE, Desk.INFO, m));
                    same("expand for info", row, x -> x.expand(kind, ONE, Desk.INFO, ONE, m), x -> x.expand(kind, APART, Desk.INFO, ONE, m));
                }
            }
        }
        String key = Checks.rising(70, 32);
        same("agree", key, x -> x.agree(ONE, ONE, ONE), x -> x.agree(APART, ONE, ONE));
        same("agree by key", key, x -> x.agree(ONE, ONE, Desk.THEIRS), x -> x.agree(APART, ONE, Desk.THEIRS));
        same("agree with other", key, x -> x.agree(ONE, Desk.OWN, ONE), x -> x.agree(APART, Desk.OWN, ONE));
        same("open", key, x -> x.open(ONE, ONE), x -> x.open(APART, ONE));
    }

    /** 14: "the key, then its PUBLIC (which counts if both are one register)". */
    private static void pair() {
        Desk apart = Desk.registers();
        apart.call(x -> x.pair(ONE, APART, Desk.INFO));
        String key = apart.read(ONE);
        String open = apart.read(APART);
        checks.due("its public key", open, Checks.hex(Model.opened(Checks.bytes(key))));
        int[][] places = {{ONE, ONE, Desk.INFO}, {Desk.INFO, ONE, Desk.INFO}, {ONE, Desk.INFO, Desk.INFO}, {Desk.INFO, Desk.INFO, Desk.INFO}};
        for (int[] place : places) {
            Desk desk = Desk.registers();
            checks.due("pair", desk.call(x -> x.pair(place[0], place[1], place[2])), 32);
            checks.due("the public key is there", desk.read(place[1]), open);
            checks.due("the key, or what counts", desk.read(place[0]), place[0] == place[1] ? open : key);
        }
    }

    /** A key of 32 bytes and a nonce of 12 are never in one register, but all else may be with either. */
    private static void lock() {
        for (int c = 1; c <= 3; c++) {
            int cipher = c;
            int keyAt = c == 1 ? Desk.SHORT_KEY : Desk.OWN;
            String key = Checks.rising(70, c == 1 ? 16 : 32);
            String nonce = Checks.rising(70, 12);
            same("lock in the key", key, x -> x.lock(cipher, ONE, ONE, Desk.NONCE, ONE, ONE), x -> x.lock(cipher, APART, ONE, Desk.NONCE, ONE, ONE));
            same("lock in the nonce", nonce, x -> x.lock(cipher, ONE, keyAt, ONE, ONE, ONE), x -> x.lock(cipher, APART, keyAt, ONE, ONE, ONE));
            for (int n : new int[] {0, 1, 284}) {
                String row = Checks.rising(70, n);
                same("lock in the aad", row, x -> x.lock(cipher, ONE, keyAt, Desk.NONCE, ONE, Desk.INFO),
                        x -> x.lock(cipher, APART, keyAt, Desk.NONCE, ONE, Desk.INFO));
                same("lock in the text", row, x -> x.lock(cipher, ONE, keyAt, Desk.NONCE, Desk.INFO, ONE),
                        x -> x.lock(cipher, APART, keyAt, Desk.NONCE, Desk.INFO, ONE));
                same("lock aad and text", row, x -> x.lock(cipher, ONE, keyAt, Desk.NONCE, ONE, ONE),
                        x -> x.lock(cipher, APART, keyAt, Desk.NONCE, ONE, ONE));
            }
        }
    }

    private static void unlock() {
        for (int c = 1; c <= 3; c++) {
            int cipher = c;
            int keyAt = c == 1 ? Desk.SHORT_KEY : Desk.OWN;
            Desk locked = Desk.registers();
            locked.call(x -> x.lock(cipher, ONE, keyAt, Desk.NONCE, Desk.NAME, Desk.INFO));
            for (int to : new int[] {ONE, keyAt, Desk.NONCE, Desk.NAME}) {
                Desk desk = locked.fork();
                checks.due("unlock to " + to, desk.call(x -> x.unlock(cipher, to, keyAt, Desk.NONCE, Desk.NAME, ONE)), 3);
                checks.due("unlocked to " + to, desk.read(to), "a1a2a3");
            }
            for (int r : new int[] {keyAt, Desk.NONCE}) {
                Desk desk = Desk.registers();
                String row = desk.read(r);
                desk.call(x -> x.lock(cipher, ONE, keyAt, Desk.NONCE, r, r));
                checks.due("unlock what is also aad", desk.call(x -> x.unlock(cipher, r, keyAt, Desk.NONCE, r, ONE)), row.length() / 2);
                checks.due("unlocked", desk.read(r), row);
            }
        }
    }

    /** A sender by one register for its key, the other's, info, the shared key, its name and the lasting key. */
    private static void sender() {
        String key = Checks.rising(70, 32);
        for (int m = 0; m <= 3; m++) {
            int mode = m;
            Desk inOne = Desk.registers().fill(ONE, key);
            Desk apart = Desk.registers();
            for (int r : new int[] {Desk.OWN, Desk.THEIRS, Desk.INFO, Desk.SHARED, Desk.NAME, Desk.LASTING}) {
                apart.fill(r, key);
            }
            int[] rows = {Desk.INFO, Desk.SHARED, Desk.NAME, Desk.LASTING};
            for (int i = 0; i <= 3; i++) {
                int what = i;
                if (i == 0 || i == 3 || mode == 1 || mode == 3) {
                    inOne.call(x -> x.use(what, ONE));
                    apart.call(x -> x.use(what, rows[what]));
                }
            }
            checks.due("sender in one", inOne.call(x -> x.sender(0, mode, 3, 2, ONE, ONE, ONE)), 32);
            checks.due("sender apart", apart.call(x -> x.sender(0, mode, 3, 2, APART, Desk.OWN, Desk.THEIRS)), 32);
            checks.due("it gives", inOne.read(ONE), apart.read(APART));
            for (int what = 0; what <= 2; what++) {
                checks.due("secret " + what, inOne.secret(0, what), apart.secret(0, what));
            }
        }
    }

    private static void receiver() {
        String key = Checks.rising(70, 32);
        for (int m = 0; m <= 3; m++) {
            int mode = m;
            Desk inOne = Desk.registers().fill(ONE, key);
            Desk apart = Desk.registers();
            for (int r : new int[] {Desk.OWN, Desk.THEIRS, Desk.INFO, Desk.SHARED, Desk.NAME, Desk.LASTING_PUBLIC}) {
                apart.fill(r, key);
            }
            int[] rows = {Desk.INFO, Desk.SHARED, Desk.NAME, Desk.LASTING, Desk.LASTING_PUBLIC};
            for (int i = 0; i <= 4; i++) {
                int what = i;
                if (i == 0 || i == 4 || mode == 1 || mode == 3) {
                    inOne.call(x -> x.use(what, ONE));
                    apart.call(x -> x.use(what, rows[what]));
                }
            }
            checks.due("receiver in one", inOne.call(x -> x.receiver(0, mode, 3, 2, ONE, ONE)), 0);
            checks.due("receiver apart", apart.call(x -> x.receiver(0, mode, 3, 2, Desk.OWN, Desk.THEIRS)), 0);
            checks.due("it gives nothing", inOne.read(ONE), key);
            for (int what = 0; what <= 2; what++) {
                checks.due("secret " + what, inOne.secret(0, what), apart.secret(0, what));
            }
        }
    }

    private static void sealAndUnseal() {
        for (int n : new int[] {0, 1, 16, 284}) {
            String row = Checks.rising(70, n);
            same("seal aad", row, x -> x.seal(Desk.SENDER, ONE, ONE, Desk.INFO), x -> x.seal(Desk.SENDER, APART, ONE, Desk.INFO));
            same("seal text", row, x -> x.seal(Desk.SENDER, ONE, Desk.INFO, ONE), x -> x.seal(Desk.SENDER, APART, Desk.INFO, ONE));
            same("seal both", row, x -> x.seal(Desk.SENDER, ONE, ONE, ONE), x -> x.seal(Desk.SENDER, APART, ONE, ONE));
            Desk sealed = Desk.contexts().fill(ONE, row);
            sealed.call(x -> x.seal(Desk.SENDER, APART, ONE, ONE));
            for (int to : new int[] {ONE, APART}) {
                Desk desk = sealed.fork();
                checks.due("unseal to " + to, desk.call(x -> x.unseal(Desk.RECEIVER, to, ONE, APART)), n);
                checks.due("unsealed to " + to, desk.read(to), row);
            }
        }
    }

    private static void exportAndSecret() {
        for (int size : new int[] {0, 1, 300}) {
            String row = Checks.rising(70, size);
            for (int n : new int[] {0, 1, 32, 33, 300}) {
                for (int c = 0; c <= 2; c++) {
                    int context = c;
                    same("export", row, x -> x.export(context, ONE, ONE, n), x -> x.export(context, APART, ONE, n));
                }
            }
        }
        Desk desk = Desk.contexts();
        String exporter = desk.secret(Desk.SENDER, 2);
        checks.due("secret onto what info is in", desk.call(x -> x.secret(Desk.SENDER, 2, Desk.INFO)), 32);
        checks.due("it came", desk.read(Desk.INFO), exporter);
        checks.due("the context has it still", desk.secret(Desk.SENDER, 2), exporter);
    }
}
