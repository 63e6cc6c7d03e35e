/**
 * The class's face over a Desk: tests that look at many bytes never ask more of one object than the 512 calls that it is
 * promised for.
 */
final class Sealer {
    private final Desk desk = new Desk();

    int add(int r, int n, long w) {
        return desk.call(x -> x.add(r, n, w));
    }

    int clear(int r) {
        return desk.call(x -> x.clear(r));
    }

    int copy(int to, int from, int begin, int n) {
        return desk.call(x -> x.copy(to, from, begin, n));
    }

    int join(int to, int from) {
        return desk.call(x -> x.join(to, from));
    }

    int turn(int r, int i, int bit) {
        return desk.call(x -> x.turn(r, i, bit));
    }

    int size(int r) {
        return desk.ask(x -> x.size(r));
    }

    int at(int r, int i) {
        return desk.ask(x -> x.at(r, i));
    }

    int hash(int kind, int to, int from) {
        return desk.call(x -> x.hash(kind, to, from));
    }

    int mac(int kind, int to, int key, int from) {
        return desk.call(x -> x.mac(kind, to, key, from));
    }

    int expand(int kind, int to, int key, int info, int n) {
        return desk.call(x -> x.expand(kind, to, key, info, n));
    }

    int agree(int to, int key, int other) {
        return desk.call(x -> x.agree(to, key, other));
    }

    int open(int to, int key) {
        return desk.call(x -> x.open(to, key));
    }

    int pair(int key, int open, int from) {
        return desk.call(x -> x.pair(key, open, from));
    }

    int lock(int cipher, int to, int key, int nonce, int aad, int text) {
        return desk.call(x -> x.lock(cipher, to, key, nonce, aad, text));
    }

    int unlock(int cipher, int to, int key, int nonce, int aad, int text) {
        return desk.call(x -> x.unlock(cipher, to, key, nonce, aad, text));
    }

    int use(int what, int r) {
        return desk.call(x -> x.use(what, r));
    }

    int sender(int context, int mode, int kind, int cipher, int to, int key, int other) {
        return desk.call(x -> x.sender(context, mode, kind, cipher, to, key, other));
    }

    int receiver(int context, int mode, int kind, int cipher, int got, int key) {
        return desk.call(x -> x.receiver(context, mode, kind, cipher, got, key));
    }

    int seal(int context, int to, int aad, int text) {
        return desk.call(x -> x.seal(context, to, aad, text));
    }

    int unseal(int context, int to, int aad, int text) {
        return desk.call(x -> x.unseal(context, to, aad, text));
    }

    int export(int context, int to, int info, int n) {
        return desk.call(x -> x.export(context, to, info, n));
    }

    int sequence(int context, int high, int middle, int low) {
        return desk.call(x -> x.sequence(context, high, middle, low));
    }

    int told(int context, int what) {
        return desk.ask(x -> x.told(context, what));
    }

    int secret(int context, int what, int to) {
        return desk.call(x -> x.secret(context, what, to));
    }

    void fill(int r, String hex) {
        desk.fill(r, hex);
    }

    String read(int r) {
        return desk.read(r);
    }
}
