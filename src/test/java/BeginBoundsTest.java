/** Promises 17 to 19 at their bounds: one method a sentence, which stands above it. */
public final class BeginBoundsTest {
    private static final Checks checks = new Checks();
    private static final Refusals refusals = new Refusals(checks, Desk::contexts);
    private static final Refusals sharing = new Refusals(checks, Desk::sharing);
    private static final int[] NO_KEYS = {-1, 16, Integer.MIN_VALUE, Integer.MAX_VALUE, Desk.EMPTY, Desk.BYTES_31, Desk.BYTES_33, Desk.FULL};
    private static final int[] NO_LASTING = {KeySealer.NONE, Desk.EMPTY, Desk.BYTES_31, Desk.BYTES_33, Desk.FULL};
    private static final int[] ALL_IN_USE = {Desk.INFO, Desk.SHARED, Desk.NAME, Desk.LASTING, Desk.LASTING_PUBLIC};
    private static final int[] NOT_SHARED = {Desk.INFO, KeySealer.NONE, KeySealer.NONE, Desk.LASTING, Desk.LASTING_PUBLIC};

    public static void main(String[] args) {
        useBounds();
        useOutermostRegisters();
        useIsReadWhenOneBegins();
        useNone();
        everySuite();
        everyContext();
        outermostRegisters();
        beginBad();
        lastingLengths();
        sharedInEachMode();
        sharedLengths();
        sharedDoesNothing();
        senderInvalid();
        receiverInvalid();
        whateverItWas();
        checks.end("BeginBoundsTest");
    }

    private static boolean isShared(int mode) {
        return mode == 1 || mode == 3;
    }

    private static void inUse(Desk desk, Model m, int[] rows) {
        for (int i = 0; i < rows.length; i++) {
            int what = i;
            checks.due("use " + what + " " + rows[what], desk.call(x -> x.use(what, rows[what])), 0);
            m.use(what, rows[what]);
        }
    }

    /** Both are the same in all that is told of a context and in what it has. */
    private static void same(String what, Desk desk, Model m, int context) {
        for (int i = 0; i <= 6; i++) {
            int one = i;
            checks.due(what + ", told " + i, desk.ask(x -> x.told(context, one)), m.told(context, i));
        }
        for (int i = 0; i <= 2; i++) {
            m.secret(context, i, Desk.SPARE);
            checks.due(what + ", secret " + i, desk.secret(context, i), Checks.hex(m.registers[Desk.SPARE]));
        }
    }

    /** A sender in context 0 and a receiver in 3, both as the model's. */
    private static void begin(String what, Desk desk, int[] uses, int mode, int kind, int cipher) {
        Model m = desk.model();
        inUse(desk, m, uses);
        m.sender(0, mode, kind, cipher, Desk.SPARE, Desk.OWN, Desk.THEIR_PUBLIC);
        checks.due(what + ", sender", desk.call(x -> x.sender(0, mode, kind, cipher, Desk.SPARE, Desk.OWN, Desk.THEIR_PUBLIC)), 32);
        checks.due(what + " gives", desk.read(Desk.SPARE), Checks.hex(m.registers[Desk.SPARE]));
        m.receiver(3, mode, kind, cipher, Desk.SPARE, Desk.THEIRS);
        checks.due(what + ", receiver", desk.call(x -> x.receiver(3, mode, kind, cipher, Desk.SPARE, Desk.THEIRS)), 0);
        same(what + ", sender", desk, m, 0);
        same(what + ", receiver", desk, m, 3);
    }

    // ---- 17: "what = 0 info, .. 4 .. is in register r, ..; NONE, as at first: without bytes. 0; BAD."

    private static void useBounds() {
        int[] others = {-1, 5, Integer.MIN_VALUE, Integer.MAX_VALUE};
        int[] noRegisters = {-2, 16, Integer.MIN_VALUE, Integer.MAX_VALUE};
        for (Refusals each : new Refusals[] {refusals, sharing}) {
            each.bad("use what", others, (x, what) -> x.use(what, Desk.INFO));
            each.bad("use what, of none", others, (x, what) -> x.use(what, KeySealer.NONE));
            for (int what = 0; what <= 4; what++) {
                int one = what;
                each.bad("use " + what, noRegisters, (x, r) -> x.use(one, r));
            }
        }
        for (int what = 0; what <= 4; what++) {
            KeySealer x = new KeySealer();
            for (int r = -1; r <= 15; r++) {
                checks.due("use " + what + " " + r, x.use(what, r), 0);
            }
        }
    }

    private static void useOutermostRegisters() {
        for (int r : new int[] {0, 15}) {
            for (int what = 0; what <= 4; what++) {
                int[] uses = ALL_IN_USE.clone();
                int from = uses[what];
                uses[what] = r;
                Desk desk = Desk.registers();
                int size = desk.ask(x -> x.size(from));
                desk.call(x -> x.copy(r, from, 0, size));
                Model m = desk.model();
                inUse(desk, m, uses);
                checks.due("sender", desk.call(x -> x.sender(2, 3, 1, 1, Desk.FULL, Desk.OWN, Desk.THEIR_PUBLIC)), 32);
                m.sender(2, 3, 1, 1, Desk.FULL, Desk.OWN, Desk.THEIR_PUBLIC);
                checks.due("receiver", desk.call(x -> x.receiver(3, 3, 1, 1, Desk.FULL, Desk.THEIRS)), 0);
                m.receiver(3, 3, 1, 1, Desk.FULL, Desk.THEIRS);
                same("use " + what + " of " + r, desk, m, 2);
                same("use " + what + " of " + r, desk, m, 3);
            }
        }
    }

    /** "as it is when one begins": what comes to the register before counts, what comes after does not. */
    private static void useIsReadWhenOneBegins() {
        for (int what = 0; what <= 4; what++) {
            int r = ALL_IN_USE[what];
            Desk desk = Desk.registers();
            Model m = desk.model();
            inUse(desk, m, ALL_IN_USE);
            checks.due("turned before", desk.call(x -> x.turn(r, 0, 5)), m.turn(r, 0, 5));
            desk.call(x -> x.sender(0, 3, 1, 1, Desk.SPARE, Desk.OWN, Desk.THEIR_PUBLIC));
            m.sender(0, 3, 1, 1, Desk.SPARE, Desk.OWN, Desk.THEIR_PUBLIC);
            desk.call(x -> x.receiver(1, 3, 1, 1, Desk.SPARE, Desk.THEIRS));
            m.receiver(1, 3, 1, 1, Desk.SPARE, Desk.THEIRS);
            desk.call(x -> x.clear(r));
            desk.call(x -> x.use(2, KeySealer.NONE));
            same("use " + what + " turned before", desk, m, 0);
            same("use " + what + " turned before", desk, m, 1);
        }
    }

    private static void useNone() {
        int[][] alike = {{KeySealer.NONE, Desk.EMPTY}, {Desk.EMPTY, KeySealer.NONE}};
        for (int[] none : alike) {
            begin("info of none", Desk.registers(), new int[] {none[0], none[0], none[1], none[0], none[1]}, 0, 1, 1);
            begin("shared ones of none", Desk.registers(), new int[] {none[0], none[0], none[1], Desk.LASTING, Desk.LASTING_PUBLIC}, 2, 1, 1);
            Desk desk = Desk.sharing();
            for (int what = 0; what <= 4; what++) {
                int one = what;
                desk.call(x -> x.use(one, none[0]));
            }
            checks.due("no shared key any more", desk.call(x -> x.sender(3, 1, 1, 1, 15, Desk.OWN, Desk.THEIR_PUBLIC)), KeySealer.SHARED);
            checks.due("no lasting key any more", desk.call(x -> x.sender(3, 2, 1, 1, 15, Desk.OWN, Desk.THEIR_PUBLIC)), KeySealer.BAD);
            checks.due("no lasting public key any more", desk.call(x -> x.receiver(3, 2, 1, 1, Desk.THEIR_PUBLIC, Desk.OWN)), KeySealer.BAD);
            checks.due("mode 0 as ever", desk.call(x -> x.sender(3, 0, 1, 1, 15, Desk.OWN, Desk.THEIR_PUBLIC)), 32);
        }
    }

    // ---- 18, 19: "BAD: context, MODE, KIND, CIPHER (1, 2, 3, 255), registers, or a key .. that has not 32 bytes"

    private static void everySuite() {
        for (int mode = 0; mode <= 3; mode++) {
            for (int kind = 1; kind <= 3; kind += 2) {
                for (int cipher : new int[] {1, 2, 3, 255}) {
                    begin("mode " + mode + " kind " + kind + " cipher " + cipher, Desk.registers(),
                            isShared(mode) ? ALL_IN_USE : NOT_SHARED, mode, kind, cipher);
                }
            }
        }
    }

    /** "CONTEXTS 0 .. 3": each of them, and the others stay none. */
    private static void everyContext() {
        for (int c = 0; c <= 3; c++) {
            int one = c;
            Desk sends = Desk.registers();
            checks.due("sender " + c, sends.call(x -> x.sender(one, 0, 1, 1, 15, Desk.OWN, Desk.THEIR_PUBLIC)), 32);
            Desk receives = Desk.registers();
            checks.due("receiver " + c, receives.call(x -> x.receiver(one, 0, 1, 1, Desk.THEIR_PUBLIC, Desk.OWN)), 0);
            for (int i = 0; i <= 3; i++) {
                int other = i;
                checks.due("sender " + c + ", told " + i, sends.ask(x -> x.told(other, 0)), i == c ? 1 : 0);
                checks.due("receiver " + c + ", told " + i, receives.ask(x -> x.told(other, 0)), i == c ? 2 : 0);
            }
        }
        refusals.bad("sender", Refusals.NO_CONTEXTS, (x, c) -> x.sender(c, 0, 1, 1, 15, Desk.OWN, Desk.THEIR_PUBLIC));
        refusals.bad("receiver", Refusals.NO_CONTEXTS, (x, c) -> x.receiver(c, 0, 1, 1, Desk.THEIR_PUBLIC, Desk.OWN));
    }

    private static void outermostRegisters() {
        for (int r : new int[] {0, 15}) {
            Desk plain = Desk.registers();
            plain.call(x -> x.sender(0, 0, 1, 1, r, Desk.OWN, Desk.THEIR_PUBLIC));
            String given = plain.read(r);
            checks.due("given to " + r, given, Checks.hex(Model.opened(Checks.bytes(Checks.rising(1, 32)))));
            Desk key = Desk.registers();
            key.call(x -> x.copy(r, Desk.OWN, 0, 32));
            checks.due("sender with key " + r, key.call(x -> x.sender(0, 0, 1, 1, Desk.FULL, r, Desk.THEIR_PUBLIC)), 32);
            checks.due("given", key.read(Desk.FULL), given);
            Desk other = Desk.registers();
            other.call(x -> x.copy(r, Desk.THEIR_PUBLIC, 0, 32));
            checks.due("sender for " + r, other.call(x -> x.sender(0, 0, 1, 1, Desk.FULL, Desk.OWN, r)), 32);
            checks.due("receiver of " + r, plain.call(x -> x.receiver(1, 0, 1, 1, r, Desk.THEIRS)), 0);
            plain.call(x -> x.copy(Desk.FULL, r, 0, 32));
            plain.call(x -> x.copy(r, Desk.THEIRS, 0, 32));
            checks.due("receiver with key " + r, plain.call(x -> x.receiver(2, 0, 1, 1, Desk.FULL, r)), 0);
            for (int what = 0; what <= 2; what++) {
                checks.due("with key " + r, key.secret(0, what), plain.secret(0, what));
                checks.due("for " + r, other.secret(0, what), plain.secret(0, what));
                checks.due("of " + r, plain.secret(1, what), plain.secret(0, what));
                checks.due("receiver's key " + r, plain.secret(2, what), plain.secret(0, what));
            }
        }
    }

    /** Refused on a sender, a receiver and none: each stays what it was. */
    private static void beginBad() {
        for (int c : new int[] {Desk.SENDER, Desk.RECEIVER, Desk.NO_CONTEXT}) {
            refusals.bad("sender of mode", Refusals.NO_MODES, (x, mode) -> x.sender(c, mode, 1, 1, 15, Desk.OWN, Desk.THEIR_PUBLIC));
            refusals.bad("sender of kind", Refusals.NO_KINDS, (x, kind) -> x.sender(c, 0, kind, 1, 15, Desk.OWN, Desk.THEIR_PUBLIC));
            refusals.bad("sender to", Refusals.NO_REGISTERS, (x, r) -> x.sender(c, 0, 1, 1, r, Desk.OWN, Desk.THEIR_PUBLIC));
            refusals.bad("sender with", NO_KEYS, (x, r) -> x.sender(c, 0, 1, 1, 15, r, Desk.THEIR_PUBLIC));
            refusals.bad("sender for", NO_KEYS, (x, r) -> x.sender(c, 0, 1, 1, 15, Desk.OWN, r));
            refusals.bad("receiver of mode", Refusals.NO_MODES, (x, mode) -> x.receiver(c, mode, 1, 1, Desk.THEIR_PUBLIC, Desk.OWN));
            refusals.bad("receiver of kind", Refusals.NO_KINDS, (x, kind) -> x.receiver(c, 0, kind, 1, Desk.THEIR_PUBLIC, Desk.OWN));
            refusals.bad("receiver of", NO_KEYS, (x, r) -> x.receiver(c, 0, 1, 1, r, Desk.OWN));
            refusals.bad("receiver with", NO_KEYS, (x, r) -> x.receiver(c, 0, 1, 1, Desk.THEIR_PUBLIC, r));
            for (int cipher : Refusals.NO_CIPHERS) {
                if (cipher != 255) {
                    refusals.bad("sender by " + cipher, x -> x.sender(c, 0, 1, cipher, 15, Desk.OWN, Desk.THEIR_PUBLIC));
                    refusals.bad("receiver by " + cipher, x -> x.receiver(c, 0, 1, cipher, Desk.THEIR_PUBLIC, Desk.OWN));
                }
            }
        }
    }

    /** "(also the lasting one in MODES 2, 3)": there it has 32 bytes, elsewhere it may be whatever it is. */
    private static void lastingLengths() {
        for (int mode = 0; mode <= 3; mode++) {
            int one = mode;
            for (int r : NO_LASTING) {
                int[] uses = isShared(mode) ? ALL_IN_USE.clone() : NOT_SHARED.clone();
                uses[3] = r;
                Refusals noKey = new Refusals(checks, () -> using(uses));
                int[] others = isShared(mode) ? ALL_IN_USE.clone() : NOT_SHARED.clone();
                others[4] = r;
                Refusals noPublic = new Refusals(checks, () -> using(others));
                if (mode >= 2) {
                    noKey.bad("sender, lasting key in " + r, x -> x.sender(0, one, 1, 1, 15, Desk.OWN, Desk.THEIR_PUBLIC));
                    noPublic.bad("receiver, lasting public key in " + r, x -> x.receiver(0, one, 1, 1, Desk.THEIR_PUBLIC, Desk.OWN));
                    checks.due("a sender needs no public one", using(others).call(x -> x.sender(0, one, 1, 1, 15, Desk.OWN, Desk.THEIR_PUBLIC)), 32);
                    checks.due("a receiver needs no own one", using(uses).call(x -> x.receiver(0, one, 1, 1, Desk.THEIR_PUBLIC, Desk.OWN)), 0);
                } else {
                    begin("lasting key in " + r, Desk.registers(), uses, mode, 1, 1);
                    begin("lasting public key in " + r, Desk.registers(), others, mode, 1, 1);
                }
            }
        }
    }

    private static Desk using(int[] rows) {
        Desk desk = Desk.contexts();
        for (int i = 0; i < rows.length; i++) {
            int what = i;
            desk.call(x -> x.use(what, rows[what]));
        }
        return desk;
    }

    // ---- Terms: "The shared key and its name are both there (1 byte or more), in MODES 1, 3, or both not, in 0, 2."

    private static void sharedInEachMode() {
        int[] holders = {KeySealer.NONE, Desk.EMPTY, Desk.NAME, Desk.FULL};
        for (int mode = 0; mode <= 3; mode++) {
            for (int key : holders) {
                for (int name : holders) {
                    int one = mode;
                    boolean keyThere = key == Desk.NAME || key == Desk.FULL;
                    boolean nameThere = name == Desk.NAME || name == Desk.FULL;
                    boolean right = isShared(mode) ? keyThere && nameThere : !keyThere && !nameThere;
                    int[] uses = {Desk.INFO, key, name, Desk.LASTING, Desk.LASTING_PUBLIC};
                    String what = "mode " + mode + " with shared key in " + key + ", name in " + name;
                    if (right) {
                        begin(what, Desk.registers(), uses, mode, 1, 1);
                        begin(what, Desk.registers(), uses, mode, 3, 2);
                    } else {
                        checks.due(what, using(uses).call(x -> x.sender(0, one, 1, 1, 15, Desk.OWN, Desk.THEIR_PUBLIC)), KeySealer.SHARED);
                        checks.due(what, using(uses).call(x -> x.receiver(0, one, 1, 1, Desk.THEIR_PUBLIC, Desk.OWN)), KeySealer.SHARED);
                    }
                }
            }
        }
    }

    /** "(1 byte or more)", up to what a register has. */
    private static void sharedLengths() {
        int[] lengths = {1, 2, 63, 64, 65, 127, 128, 129, 299, 300};
        for (int n : lengths) {
            Desk desk = Desk.registers().fill(Desk.FULL, Checks.rising(2, n));
            begin("shared key of " + n, desk.fork(), new int[] {-1, Desk.FULL, Desk.NAME, -1, -1}, 1, 1, 1);
            begin("name of " + n, desk.fork(), new int[] {-1, Desk.SHARED, Desk.FULL, -1, -1}, 1, 3, 1);
            begin("info of " + n, desk.fork(), new int[] {Desk.FULL, -1, -1, -1, -1}, 0, 1, 255);
            begin("all of " + n, desk.fork(), new int[] {Desk.FULL, Desk.FULL, Desk.FULL, Desk.LASTING, Desk.LASTING_PUBLIC}, 3, 3, 3);
        }
    }

    /** "and nothing is done", not even to what the context was. */
    private static void sharedDoesNothing() {
        for (int c = 0; c <= 3; c++) {
            int one = c;
            for (int mode = 0; mode <= 3; mode++) {
                int m = mode;
                Refusals each = isShared(mode) ? refusals : sharing;
                each.due("sender of mode " + mode, KeySealer.SHARED, x -> x.sender(one, m, 3, 2, Desk.INFO, Desk.OWN, Desk.THEIR_PUBLIC));
                each.due("receiver of mode " + mode, KeySealer.SHARED, x -> x.receiver(one, m, 3, 2, Desk.THEIR_PUBLIC, Desk.OWN));
            }
        }
        for (int name : new int[] {KeySealer.NONE, Desk.EMPTY}) {
            Refusals nameless = new Refusals(checks, () -> using(new int[] {Desk.INFO, Desk.SHARED, name, Desk.LASTING, Desk.LASTING_PUBLIC}));
            Refusals keyless = new Refusals(checks, () -> using(new int[] {Desk.INFO, name, Desk.NAME, Desk.LASTING, Desk.LASTING_PUBLIC}));
            for (int mode = 0; mode <= 3; mode++) {
                int m = mode;
                for (Refusals each : new Refusals[] {nameless, keyless}) {
                    each.due("sender with one of both", KeySealer.SHARED, x -> x.sender(0, m, 1, 1, 15, Desk.OWN, Desk.THEIR_PUBLIC));
                    each.due("receiver with one of both", KeySealer.SHARED, x -> x.receiver(0, m, 1, 1, Desk.THEIR_PUBLIC, Desk.OWN));
                }
            }
        }
    }

    // ---- Terms: "Each AGREE must not be 32* zeros." 18, 19: "INVALID: an AGREE is 32* zeros."

    private static Desk withPoint(int mode, String point) {
        return (isShared(mode) ? Desk.sharing() : Desk.contexts()).fill(Desk.ZEROS, point);
    }

    private static void senderInvalid() {
        for (int mode = 0; mode <= 3; mode++) {
            int m = mode;
            for (String point : BelowBoundsTest.zeroPoints()) {
                Refusals zeros = new Refusals(checks, () -> withPoint(m, point));
                for (int c : new int[] {Desk.SENDER, Desk.RECEIVER, Desk.NO_CONTEXT}) {
                    zeros.due("sender for " + point, KeySealer.INVALID, x -> x.sender(c, m, 1, 2, Desk.INFO, Desk.OWN, Desk.ZEROS));
                }
            }
        }
    }

    private static void receiverInvalid() {
        for (int mode = 0; mode <= 3; mode++) {
            int m = mode;
            for (String point : BelowBoundsTest.zeroPoints()) {
                Refusals got = new Refusals(checks, () -> withPoint(m, point));
                got.due("receiver of " + point, KeySealer.INVALID, x -> x.receiver(Desk.RECEIVER, m, 1, 2, Desk.ZEROS, Desk.THEIRS));
                got.due("receiver of " + point, KeySealer.INVALID, x -> x.receiver(Desk.NO_CONTEXT, m, 1, 2, Desk.ZEROS, Desk.THEIRS));
                if (mode >= 2) {
                    Refusals lasting = new Refusals(checks, () -> lastingPoint(m, point));
                    lasting.due("lasting " + point, KeySealer.INVALID, x -> x.receiver(Desk.SENDER, m, 1, 2, Desk.THEIR_PUBLIC, Desk.OWN));
                } else {
                    checks.due("not looked at", lastingPoint(m, point).call(x -> x.receiver(0, m, 1, 2, Desk.THEIR_PUBLIC, Desk.OWN)), 0);
                }
                checks.due("not the sender's", lastingPoint(m, point).call(x -> x.sender(0, m, 1, 2, 15, Desk.OWN, Desk.THEIR_PUBLIC)), 32);
            }
        }
    }

    private static Desk lastingPoint(int mode, String point) {
        Desk desk = withPoint(mode, point);
        desk.call(x -> x.use(4, Desk.ZEROS));
        return desk;
    }

    // ---- 18: "A context (whatever it was) becomes a SENDER", Terms: "Its SEQUENCE .. is 0."

    private static void whateverItWas() {
        int[][] suites = {{3, 2, 32, 12, 64}, {1, 1, 16, 12, 32}, {3, 255, 0, 0, 64}, {1, 3, 32, 12, 32}, {1, 255, 0, 0, 32}, {3, 1, 16, 12, 64}};
        for (int[] was : suites) {
            for (int[] now : suites) {
                for (int role = 1; role <= 2; role++) {
                    Desk desk = Desk.registers();
                    int first = role;
                    beginOnce(desk, first, was);
                    desk.call(x -> x.sequence(1, -1, -1, -1));
                    beginOnce(desk, 3 - first, now);
                    checks.due("it is another", desk.told(1), (3 - first) + " 0 " + now[0] + " " + now[1] + " 0 0 0 ");
                    for (int what = 0; what <= 2; what++) {
                        checks.due("secret " + what, desk.secret(1, what).length() / 2, now[2 + what]);
                    }
                    Desk fresh = Desk.registers();
                    beginOnce(fresh, 3 - first, now);
                    checks.due("nothing is left of what it was", desk.secret(1, 2), fresh.secret(1, 2));
                }
            }
        }
    }

    private static void beginOnce(Desk desk, int role, int[] suite) {
        if (role == 1) {
            checks.due("sender", desk.call(x -> x.sender(1, 0, suite[0], suite[1], 15, Desk.OWN, Desk.THEIR_PUBLIC)), 32);
        } else {
            checks.due("receiver", desk.call(x -> x.receiver(1, 0, suite[0], suite[1], Desk.THEIR_PUBLIC, Desk.OWN)), 0);
        }
    }
}
