import java.util.ArrayList;
import java.util.List;
import java.util.function.ToIntFunction;

/**
 * One run of calls. An object is promised for 512 calls alone: where looking at it would take more, the run's calls are
 * made again on a new object, and the looking goes on there.
 */
final class Desk {
    static final int EMPTY = 0, OWN = 1, THEIRS = 2, THEIR_PUBLIC = 3, LASTING = 4, LASTING_PUBLIC = 5, INFO = 6, SHARED = 7,
        NAME = 8, NONCE = 9, SHORT_KEY = 10, FULL = 11, BYTES_31 = 12, BYTES_33 = 13, ZEROS = 14, SPARE = 15;
    static final int SENDER = 0, RECEIVER = 1, WITHOUT_CIPHER = 2, NO_CONTEXT = 3;
    private static final int CALLS = 512;

    private final List<ToIntFunction<KeySealer>> run;
    private KeySealer object = new KeySealer();
    private int count = 0;

    Desk() {
        run = new ArrayList<>();
    }

    private Desk(Desk other) {
        run = new ArrayList<>(other.run);
        again();
    }

    /** The same run, to go on another way. */
    Desk fork() {
        return new Desk(this);
    }

    /** One call that belongs to the run. */
    int call(ToIntFunction<KeySealer> call) {
        int answer = ask(call);
        run.add(call);
        return answer;
    }

    /** One call that only looks. */
    int ask(ToIntFunction<KeySealer> call) {
        if (count == CALLS) {
            again();
        }
        count++;
        return call.applyAsInt(object);
    }

    private void again() {
        if (run.size() >= CALLS) {
            throw new IllegalStateException("the run is longer than an object is promised for");
        }
        object = new KeySealer();
        count = run.size();
        for (ToIntFunction<KeySealer> call : run) {
            call.applyAsInt(object);
        }
    }

    Desk fill(int r, String hex) {
        call(x -> x.clear(r));
        for (int i = 0; i < hex.length(); i += 16) {
            int end = Math.min(i + 16, hex.length());
            int n = (end - i) / 2;
            long w = Long.parseUnsignedLong(hex.substring(i, end), 16);
            call(x -> x.add(r, n, w));
        }
        return this;
    }

    String read(int r) {
        StringBuilder hex = new StringBuilder();
        int size = ask(x -> x.size(r));
        for (int i = 0; i < size; i++) {
            int place = i;
            hex.append(Checks.hex(ask(x -> x.at(r, place))));
        }
        return hex.toString();
    }

    /** What a context has, which the run does not keep. */
    String secret(int context, int what) {
        Desk other = fork();
        int answer = other.call(x -> x.secret(context, what, SPARE));
        return answer < 0 ? "refused " + answer : other.read(SPARE);
    }

    String told(int context) {
        StringBuilder all = new StringBuilder();
        for (int what = 0; what <= 6; what++) {
            int one = what;
            all.append(ask(x -> x.told(context, one))).append(' ');
        }
        return all.toString();
    }

    /** All that can be seen: registers, contexts with what they have, and what is in use for those that begin. */
    String all() {
        StringBuilder all = new StringBuilder();
        for (int r = 0; r < 16; r++) {
            all.append(read(r)).append('\n');
        }
        for (int context = 0; context < 4; context++) {
            all.append(told(context));
        }
        Desk other = fork();
        for (int i = 0; i < 12; i++) {
            int r = i;
            all.append('\n').append(other.call(x -> x.secret(r / 3, r % 3, r))).append(' ').append(other.read(r));
        }
        return all.append(inUse()).toString();
    }

    private String inUse() {
        StringBuilder all = new StringBuilder();
        Desk other = fork();
        for (int i = 0; i < 4; i++) {
            int mode = i;
            all.append("\nsender ").append(other.call(x -> x.sender(NO_CONTEXT, mode, 1, 255, SPARE, OWN, THEIR_PUBLIC)));
            all.append(' ').append(other.call(x -> x.secret(NO_CONTEXT, 2, SPARE))).append(' ').append(other.read(SPARE));
            all.append("\nreceiver ").append(other.call(x -> x.receiver(NO_CONTEXT, mode, 1, 255, THEIR_PUBLIC, OWN)));
            all.append(' ').append(other.call(x -> x.secret(NO_CONTEXT, 2, SPARE))).append(' ').append(other.read(SPARE));
        }
        return all.toString();
    }

    /** Registers of every kind that a call may want or refuse; 0 and 15 stay without bytes. */
    static Desk registers() {
        Desk desk = new Desk();
        desk.fill(OWN, Checks.rising(1, 32)).fill(THEIRS, Checks.rising(60, 32)).fill(LASTING, Checks.rising(120, 32));
        desk.call(x -> x.open(THEIR_PUBLIC, THEIRS));
        desk.call(x -> x.open(LASTING_PUBLIC, LASTING));
        desk.fill(INFO, "a1a2a3").fill(SHARED, "b1b2").fill(NAME, "c1");
        desk.fill(NONCE, Checks.rising(200, 12)).fill(SHORT_KEY, Checks.rising(220, 16)).fill(FULL, Checks.rising(3, 300));
        desk.fill(BYTES_31, Checks.rising(5, 31)).fill(BYTES_33, Checks.rising(6, 33)).fill(ZEROS, Checks.same(0, 32));
        return desk;
    }

    /** These registers with info and lasting keys in use, a sender, a receiver, a sender without a cipher, and none. */
    static Desk contexts() {
        Desk desk = registers();
        desk.call(x -> x.use(0, INFO));
        desk.call(x -> x.use(3, LASTING));
        desk.call(x -> x.use(4, LASTING_PUBLIC));
        desk.call(x -> x.sender(SENDER, 2, 1, 3, SPARE, OWN, THEIR_PUBLIC));
        desk.call(x -> x.receiver(RECEIVER, 2, 1, 3, SPARE, THEIRS));
        desk.call(x -> x.sender(WITHOUT_CIPHER, 0, 3, 255, SPARE, OWN, THEIR_PUBLIC));
        desk.call(x -> x.clear(SPARE));
        desk.call(x -> x.sequence(SENDER, 7, 8, 9));
        desk.call(x -> x.sequence(RECEIVER, 7, 8, 9));
        return desk;
    }

    /** Those with a shared key and its name in use too. */
    static Desk sharing() {
        Desk desk = contexts();
        desk.call(x -> x.use(1, SHARED));
        desk.call(x -> x.use(2, NAME));
        return desk;
    }

    /** The model with the same registers. */
    Model model() {
        Model m = new Model();
        for (int r = 0; r < 16; r++) {
            m.registers[r] = Checks.bytes(read(r));
        }
        return m;
    }
}
