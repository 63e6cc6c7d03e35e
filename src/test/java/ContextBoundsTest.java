import java.math.BigInteger;

/** Promises 20 to 25 at their bounds: one method a sentence, which stands above it. */
public final class ContextBoundsTest {
    private static final Checks checks = new Checks();
    private static final Refusals refusals = new Refusals(checks, Desk::contexts);
    /** Contexts that are not what a call wants, besides those that there are not: -1, 4 and so on. */
    private static final int[] NOT_SENDING = {Desk.RECEIVER, Desk.WITHOUT_CIPHER, Desk.NO_CONTEXT, -1, 4, Integer.MIN_VALUE, Integer.MAX_VALUE};
    private static final int[] NOT_RECEIVING = {Desk.SENDER, Desk.WITHOUT_CIPHER, Desk.NO_CONTEXT, -1, 4, Integer.MIN_VALUE, Integer.MAX_VALUE};
    private static final int[] NOT_BEGUN = {Desk.NO_CONTEXT, -1, 4, Integer.MIN_VALUE, Integer.MAX_VALUE};
    private static final BigInteger END = BigInteger.ONE.shiftLeft(96).subtract(BigInteger.ONE);

    public static void main(String[] args) {
        sealBad();
        sealLengths();
        sealFull();
        unsealBad();
        unsealLengths();
        unsealRefused();
        outermostRegisters();
        sequenceSteps();
        sequenceWords();
        limit();
        limitIsOneNumber();
        refusedBeforeTheLimit();
        exportLengths();
        exportBad();
        sequenceBad();
        told();
        secret();
        withoutCipher();
        contextsAreApart();
        checks.end("ContextBoundsTest");
    }

    /** A sender in 0 and a receiver in 1 of one cipher. */
    private static Desk talking(int kind, int cipher) {
        Desk desk = Desk.registers();
        desk.call(x -> x.sender(0, 0, kind, cipher, Desk.SPARE, Desk.OWN, Desk.THEIR_PUBLIC));
        desk.call(x -> x.receiver(1, 0, kind, cipher, Desk.SPARE, Desk.THEIRS));
        desk.call(x -> x.clear(Desk.SPARE));
        return desk;
    }

    private static Model modelOf(Desk desk, int kind, int cipher) {
        Model m = desk.model();
        m.sender(0, 0, kind, cipher, Desk.SPARE, Desk.OWN, Desk.THEIR_PUBLIC);
        m.receiver(1, 0, kind, cipher, Desk.SPARE, Desk.THEIRS);
        m.clear(Desk.SPARE);
        return m;
    }

    private static int word(BigInteger v, int shift) {
        return v.shiftRight(shift).intValue();
    }

    private static void place(Desk desk, int context, BigInteger v) {
        checks.due("sequence " + v, desk.call(x -> x.sequence(context, word(v, 64), word(v, 32), word(v, 0))), 0);
    }

    private static void dueSequence(String what, Desk desk, int context, BigInteger want) {
        for (int i = 0; i < 3; i++) {
            int part = 4 + i;
            checks.due(what + ", told " + part, desk.ask(x -> x.told(context, part)), word(want, 64 - 32 * i));
        }
    }

    // ---- 20: "SEAL by a sender: how many bytes. BAD: it is none, has CIPHER 255, registers; LIMIT; FULL."

    private static void sealBad() {
        refusals.bad("seal by", NOT_SENDING, (x, c) -> x.seal(c, Desk.SPARE, Desk.INFO, Desk.NAME));
        refusals.bad("seal to", Refusals.NO_REGISTERS, (x, r) -> x.seal(Desk.SENDER, r, Desk.INFO, Desk.NAME));
        refusals.bad("seal aad", Refusals.NO_REGISTERS, (x, r) -> x.seal(Desk.SENDER, Desk.SPARE, r, Desk.NAME));
        refusals.bad("seal text", Refusals.NO_REGISTERS, (x, r) -> x.seal(Desk.SENDER, Desk.SPARE, Desk.INFO, r));
    }

    private static void sealLengths() {
        int[][] lengths = {{0, 0}, {0, 1}, {1, 0}, {300, 0}, {0, 283}, {0, 284}, {300, 284}};
        for (int cipher = 1; cipher <= 3; cipher++) {
            int number = cipher;
            for (int[] n : lengths) {
                Desk desk = talking(1, cipher).fill(Desk.INFO, Checks.rising(9, n[0])).fill(Desk.NAME, Checks.rising(80, n[1]));
                Model m = modelOf(desk, 1, number);
                String what = number + " of aad " + n[0] + ", text " + n[1];
                checks.due("seal by " + what, desk.call(x -> x.seal(0, Desk.SPARE, Desk.INFO, Desk.NAME)), n[1] + 16);
                m.seal(0, Desk.SPARE, Desk.INFO, Desk.NAME);
                checks.due("sealed by " + what, desk.read(Desk.SPARE), Checks.hex(m.registers[Desk.SPARE]));
                checks.due("unseal by " + what, desk.call(x -> x.unseal(1, Desk.SPARE, Desk.INFO, Desk.SPARE)), n[1]);
                checks.due("unsealed by " + what, desk.read(Desk.SPARE), Checks.rising(80, n[1]));
                dueSequence("sealed", desk, 0, BigInteger.ONE);
                dueSequence("unsealed", desk, 1, BigInteger.ONE);
            }
        }
    }

    private static void sealFull() {
        for (int n : new int[] {285, 286, 299, 300}) {
            Refusals full = new Refusals(checks, () -> Desk.contexts().fill(Desk.FULL, Checks.rising(1, n)));
            for (int to : new int[] {Desk.EMPTY, Desk.FULL, Desk.INFO}) {
                full.due("seal " + n, KeySealer.FULL, x -> x.seal(Desk.SENDER, to, Desk.INFO, Desk.FULL));
            }
        }
    }

    // ---- 21: "OPEN by a receiver: how many bytes. BAD: it is none, has CIPHER 255, registers; LIMIT; REFUSED"

    private static Desk sealed() {
        Desk desk = Desk.contexts();
        desk.call(x -> x.seal(Desk.SENDER, Desk.SPARE, Desk.INFO, Desk.SHORT_KEY));
        return desk;
    }

    private static void unsealBad() {
        Refusals each = new Refusals(checks, ContextBoundsTest::sealed);
        each.bad("unseal by", NOT_RECEIVING, (x, c) -> x.unseal(c, Desk.EMPTY, Desk.INFO, Desk.SPARE));
        each.bad("unseal to", Refusals.NO_REGISTERS, (x, r) -> x.unseal(Desk.RECEIVER, r, Desk.INFO, Desk.SPARE));
        each.bad("unseal aad", Refusals.NO_REGISTERS, (x, r) -> x.unseal(Desk.RECEIVER, Desk.EMPTY, r, Desk.SPARE));
        each.bad("unseal text", Refusals.NO_REGISTERS, (x, r) -> x.unseal(Desk.RECEIVER, Desk.EMPTY, Desk.INFO, r));
        Desk receives = Desk.registers();
        receives.call(x -> x.receiver(2, 0, 1, 255, Desk.THEIR_PUBLIC, Desk.OWN));
        checks.due("unseal without a cipher", receives.call(x -> x.unseal(2, 0, Desk.INFO, Desk.FULL)), KeySealer.BAD);
        dueSequence("unseal without a cipher", receives, 2, BigInteger.ZERO);
    }

    /** "as unlock()": fewer than 16 bytes, and 16, which are a TAG alone. */
    private static void unsealLengths() {
        for (int cipher = 1; cipher <= 3; cipher++) {
            for (int n = 0; n <= 17; n++) {
                int many = n;
                Desk desk = talking(3, cipher);
                desk.call(x -> x.seal(0, Desk.SPARE, Desk.INFO, Desk.EMPTY));
                desk.call(x -> many <= 16 ? x.copy(Desk.SPARE, Desk.SPARE, 0, many) : x.add(Desk.SPARE, 1, 0));
                checks.due("unseal " + n, desk.call(x -> x.unseal(1, Desk.NAME, Desk.INFO, Desk.SPARE)), n == 16 ? 0 : KeySealer.REFUSED);
                checks.due("unsealed " + n, desk.read(Desk.NAME), n == 16 ? "" : "c1");
                dueSequence("unseal " + n, desk, 1, BigInteger.valueOf(n == 16 ? 1 : 0));
            }
        }
    }

    /** "REFUSED: as unlock() (SEQUENCE stays)": by each bit of what was sealed, of the aad, and by another SEQUENCE. */
    private static void unsealRefused() {
        for (int i = 0; i < 32; i++) {
            int place = i;
            Refusals turned = new Refusals(checks, () -> {
                Desk desk = sealed();
                desk.call(x -> x.turn(Desk.SPARE, place, place & 7));
                return desk;
            });
            turned.due("unseal with byte " + i + " turned", KeySealer.REFUSED, x -> x.unseal(Desk.RECEIVER, Desk.NAME, Desk.INFO, Desk.SPARE));
        }
        Refusals plain = new Refusals(checks, ContextBoundsTest::sealed);
        plain.due("unseal with another aad", KeySealer.REFUSED, x -> x.unseal(Desk.RECEIVER, Desk.NAME, Desk.EMPTY, Desk.SPARE));
        plain.due("unseal nothing", KeySealer.REFUSED, x -> x.unseal(Desk.RECEIVER, Desk.NAME, Desk.INFO, Desk.EMPTY));
        plain.due("unseal a full one", KeySealer.REFUSED, x -> x.unseal(Desk.RECEIVER, Desk.NAME, Desk.INFO, Desk.FULL));
        int[][] others = {{7, 8, 8}, {7, 8, 10}, {7, 9, 9}, {8, 8, 9}, {0, 8, 9}, {7, 0, 9}, {7, 8, 0}};
        for (int[] s : others) {
            Refusals moved = new Refusals(checks, () -> {
                Desk desk = sealed();
                desk.call(x -> x.sequence(Desk.RECEIVER, s[0], s[1], s[2]));
                return desk;
            });
            moved.due("unseal out of turn", KeySealer.REFUSED, x -> x.unseal(Desk.RECEIVER, Desk.NAME, Desk.INFO, Desk.SPARE));
        }
        Desk desk = sealed();
        desk.call(x -> x.unseal(Desk.RECEIVER, Desk.NAME, Desk.EMPTY, Desk.SPARE));
        checks.due("and then rightly", desk.call(x -> x.unseal(Desk.RECEIVER, Desk.NAME, Desk.INFO, Desk.SPARE)), 16);
    }

    /** "REGISTERS 0 .. 15": each place of seal, unseal, export and secret takes the first and the last. */
    private static void outermostRegisters() {
        Desk plain = talking(1, 1);
        plain.call(x -> x.seal(0, Desk.FULL, Desk.INFO, Desk.NAME));
        String want = plain.read(Desk.FULL);
        plain.call(x -> x.export(0, Desk.FULL, Desk.INFO, 40));
        String exported = plain.read(Desk.FULL);
        for (int r : new int[] {0, 15}) {
            for (int i = 0; i < 3; i++) {
                int[] at = {Desk.FULL, Desk.INFO, Desk.NAME};
                int from = at[i];
                at[i] = r;
                Desk desk = talking(1, 1);
                int size = desk.ask(x -> x.size(from));
                desk.call(x -> x.copy(r, from, 0, size));
                desk.call(x -> x.export(0, at[0], at[1], 40));
                checks.due("exported by " + r, desk.read(at[0]), exported);
                checks.due("seal by " + r, desk.call(x -> x.seal(0, at[0], at[1], at[2])), 17);
                checks.due("sealed by " + r, desk.read(at[0]), want);
                checks.due("unseal by " + r, desk.call(x -> x.unseal(1, at[2], at[1], at[0])), 1);
                checks.due("unsealed by " + r, desk.read(at[2]), "c1");
                checks.due("secret to " + r, desk.call(x -> x.secret(1, 2, r)), 32);
                checks.due("the secret", desk.read(r), plain.secret(0, 2));
            }
        }
    }

    // ---- Terms: "Then SEQUENCE is one more", "SEQUENCE, a number of 96 bits"

    /** From two before each place where a word runs over or changes its sign to two behind it. */
    private static void sequenceSteps() {
        for (int power : new int[] {8, 16, 24, 31, 32, 40, 48, 56, 63, 64, 72, 80, 88, 95}) {
            int cipher = 1 + power % 3;
            BigInteger at = BigInteger.ONE.shiftLeft(power);
            BigInteger start = at.subtract(BigInteger.TWO);
            Desk desk = talking(1, cipher);
            Model m = modelOf(desk, 1, cipher);
            place(desk, 0, start);
            place(desk, 1, start);
            m.sequence(0, word(start, 64), word(start, 32), word(start, 0));
            for (int i = 0; i < 5; i++) {
                String what = "step " + i + " at 2^" + power;
                dueSequence(what, desk, 0, start.add(BigInteger.valueOf(i)));
                dueSequence(what, desk, 1, start.add(BigInteger.valueOf(i)));
                checks.due(what, desk.call(x -> x.seal(0, Desk.SPARE, Desk.INFO, Desk.SHARED)), 18);
                m.seal(0, Desk.SPARE, Desk.INFO, Desk.SHARED);
                checks.due(what + ", sealed", desk.read(Desk.SPARE), Checks.hex(m.registers[Desk.SPARE]));
                checks.due(what, desk.call(x -> x.unseal(1, Desk.SPARE, Desk.INFO, Desk.SPARE)), 2);
                checks.due(what + ", unsealed", desk.read(Desk.SPARE), "b1b2");
            }
        }
    }

    /** 23: "high 2^64 + middle 2^32 + low (without sign)". */
    private static void sequenceWords() {
        int[] ends = {0, 1, -1, -2, Integer.MAX_VALUE, Integer.MIN_VALUE};
        for (int c = 0; c <= 2; c++) {
            int context = c;
            for (int high : ends) {
                Desk desk = Desk.contexts();
                for (int middle : ends) {
                    for (int low : ends) {
                        checks.due("sequence", desk.call(x -> x.sequence(context, high, middle, low)), 0);
                        checks.due("high", desk.ask(x -> x.told(context, 4)), high);
                        checks.due("middle", desk.ask(x -> x.told(context, 5)), middle);
                        checks.due("low", desk.ask(x -> x.told(context, 6)), low);
                    }
                }
                checks.due("the next context", desk.told((c + 1) % 4), Desk.contexts().told((c + 1) % 4));
            }
        }
    }

    // ---- Terms: "it must not be 2^96 - 1"

    private static void limit() {
        for (int cipher = 1; cipher <= 3; cipher++) {
            Desk desk = talking(1, cipher);
            Model m = modelOf(desk, 1, cipher);
            m.sequence(0, -1, -1, -3);
            for (int i = 2; i >= 1; i--) {
                BigInteger now = END.subtract(BigInteger.valueOf(i));
                place(desk, 0, now);
                place(desk, 1, now);
                checks.due("seal " + i + " before the end", desk.call(x -> x.seal(0, Desk.SPARE, Desk.INFO, Desk.SHARED)), 18);
                m.seal(0, Desk.SPARE, Desk.INFO, Desk.SHARED);
                checks.due("sealed", desk.read(Desk.SPARE), Checks.hex(m.registers[Desk.SPARE]));
                checks.due("unseal " + i + " before the end", desk.call(x -> x.unseal(1, Desk.EMPTY, Desk.INFO, Desk.SPARE)), 2);
                dueSequence("sealed", desk, 0, now.add(BigInteger.ONE));
                dueSequence("unsealed", desk, 1, now.add(BigInteger.ONE));
            }
            Refusals atEnd = new Refusals(checks, desk::fork);
            atEnd.due("seal at the end", KeySealer.LIMIT, x -> x.seal(0, Desk.SPARE, Desk.INFO, Desk.SHARED));
            atEnd.due("unseal at the end", KeySealer.LIMIT, x -> x.unseal(1, Desk.EMPTY, Desk.INFO, Desk.SPARE));
            checks.due("export at the end", desk.fork().call(x -> x.export(0, Desk.EMPTY, Desk.INFO, 9)), 9);
            place(desk, 0, BigInteger.ZERO);
            checks.due("seal from 0 again", desk.call(x -> x.seal(0, Desk.SPARE, Desk.INFO, Desk.SHARED)), 18);
            dueSequence("sealed", desk, 0, BigInteger.ONE);
        }
    }

    /** Next to 2^96 - 1 by any one bit stands a number that is none of it. */
    private static void limitIsOneNumber() {
        for (int bit = 0; bit < 96; bit++) {
            BigInteger near = END.clearBit(bit);
            Desk desk = talking(1, 3);
            place(desk, 0, near);
            place(desk, 1, near);
            checks.due("seal without bit " + bit, desk.call(x -> x.seal(0, Desk.SPARE, Desk.INFO, Desk.SHARED)), 18);
            checks.due("unseal without bit " + bit, desk.call(x -> x.unseal(1, Desk.EMPTY, Desk.INFO, Desk.SPARE)), 2);
            dueSequence("sealed", desk, 0, near.add(BigInteger.ONE));
            dueSequence("unsealed", desk, 1, near.add(BigInteger.ONE));
        }
    }

    /** 21: "(SEQUENCE stays)": a refusal does not lead to the end either. */
    private static void refusedBeforeTheLimit() {
        Desk desk = talking(1, 2);
        place(desk, 0, END.subtract(BigInteger.ONE));
        place(desk, 1, END.subtract(BigInteger.ONE));
        checks.due("seal", desk.call(x -> x.seal(0, Desk.SPARE, Desk.INFO, Desk.SHARED)), 18);
        for (int i = 0; i < 3; i++) {
            checks.due("unseal another", desk.call(x -> x.unseal(1, Desk.EMPTY, Desk.NAME, Desk.SPARE)), KeySealer.REFUSED);
            dueSequence("refused", desk, 1, END.subtract(BigInteger.ONE));
        }
        checks.due("unseal", desk.call(x -> x.unseal(1, Desk.EMPTY, Desk.INFO, Desk.SPARE)), 2);
        checks.due("unseal at the end", desk.call(x -> x.unseal(1, Desk.EMPTY, Desk.INFO, Desk.SPARE)), KeySealer.LIMIT);
    }

    // ---- 22: "EXPORT of n bytes (0 .. 300): n. BAD: there is no such context, registers, n."

    private static void exportLengths() {
        int[] lengths = {0, 1, 31, 32, 33, 63, 64, 65, 127, 128, 129, 254, 255, 256, 257, 299, 300};
        for (int kind = 1; kind <= 3; kind += 2) {
            for (int cipher : new int[] {1, 255}) {
                Desk begun = talking(kind, cipher);
                Model m = modelOf(begun, kind, cipher);
                for (int n : lengths) {
                    for (int info : new int[] {Desk.EMPTY, Desk.NAME, Desk.FULL}) {
                        m.export(0, Desk.SPARE, info, n);
                        String want = Checks.hex(m.registers[Desk.SPARE]);
                        for (int c = 0; c <= 1; c++) {
                            int context = c;
                            Desk desk = begun.fork();
                            checks.due("export " + n, desk.call(x -> x.export(context, Desk.ZEROS, info, n)), n);
                            checks.due("exported " + n, desk.read(Desk.ZEROS), want);
                            dueSequence("exported", desk, c, BigInteger.ZERO);
                        }
                    }
                }
            }
        }
    }

    private static void exportBad() {
        refusals.bad("export of", NOT_BEGUN, (x, c) -> x.export(c, Desk.INFO, Desk.INFO, 5));
        refusals.bad("export nothing of", NOT_BEGUN, (x, c) -> x.export(c, Desk.INFO, Desk.INFO, 0));
        for (int c = 0; c <= 2; c++) {
            int context = c;
            refusals.bad("export to", Refusals.NO_REGISTERS, (x, r) -> x.export(context, r, Desk.INFO, 5));
            refusals.bad("export info", Refusals.NO_REGISTERS, (x, r) -> x.export(context, Desk.INFO, r, 5));
            refusals.bad("export n", Refusals.NO_LENGTHS, (x, n) -> x.export(context, Desk.INFO, Desk.INFO, n));
        }
    }

    // ---- 23: "BAD: there is no such context."

    private static void sequenceBad() {
        refusals.bad("sequence of", NOT_BEGUN, (x, c) -> x.sequence(c, 1, 2, 3));
        refusals.bad("sequence of, the last", NOT_BEGUN, (x, c) -> x.sequence(c, -1, -1, -1));
    }

    // ---- 24: "what = 0 .. 6 .. (0 of none). BAD: no such context, another what."

    private static void told() {
        Desk desk = Desk.sharing();
        checks.due("a sender", desk.told(Desk.SENDER), "1 2 1 3 7 8 9 ");
        checks.due("a receiver", desk.told(Desk.RECEIVER), "2 2 1 3 7 8 9 ");
        checks.due("without a cipher", desk.told(Desk.WITHOUT_CIPHER), "1 0 3 255 0 0 0 ");
        checks.due("none yet", desk.told(Desk.NO_CONTEXT), "0 0 0 0 0 0 0 ");
        desk.call(x -> x.receiver(Desk.NO_CONTEXT, 3, 3, 255, Desk.THEIR_PUBLIC, Desk.OWN));
        checks.due("mode 3", desk.told(Desk.NO_CONTEXT), "2 3 3 255 0 0 0 ");
        for (int c = 0; c <= 3; c++) {
            int context = c;
            refusals.bad("told of " + c, new int[] {-1, 7, 8, Integer.MIN_VALUE, Integer.MAX_VALUE}, (x, what) -> x.told(context, what));
        }
        for (int what = -1; what <= 7; what++) {
            int one = what;
            refusals.bad("told " + what, Refusals.NO_CONTEXTS, (x, c) -> x.told(c, one));
        }
    }

    // ---- 25: "what = 0 its key, 1 its base, 2 its exporter: how many bytes. BAD: there is none such, register, another what."

    private static void secret() {
        for (int what = 0; what <= 2; what++) {
            int one = what;
            refusals.bad("secret " + what + " of", NOT_BEGUN, (x, c) -> x.secret(c, one, Desk.INFO));
            for (int c = 0; c <= 2; c++) {
                int context = c;
                refusals.bad("secret " + what + " to", Refusals.NO_REGISTERS, (x, r) -> x.secret(context, one, r));
            }
        }
        for (int c = 0; c <= 3; c++) {
            int context = c;
            refusals.bad("secret of " + c, new int[] {-1, 3, 4, Integer.MIN_VALUE, Integer.MAX_VALUE},
                    (x, what) -> x.secret(context, what, Desk.INFO));
        }
        int[][] sizes = {{1, 1, 16, 12, 32}, {1, 2, 32, 12, 32}, {1, 3, 32, 12, 32}, {3, 1, 16, 12, 64}, {3, 2, 32, 12, 64}, {3, 3, 32, 12, 64}};
        for (int[] size : sizes) {
            Desk begun = talking(size[0], size[1]);
            Model m = modelOf(begun, size[0], size[1]);
            for (int i = 0; i < 6; i++) {
                int context = i / 3;
                int what = i % 3;
                Desk desk = begun.fork();
                checks.due("secret " + what, desk.call(x -> x.secret(context, what, Desk.FULL)), size[2 + what]);
                m.secret(context, what, Desk.FULL);
                checks.due("the secret " + what, desk.read(Desk.FULL), Checks.hex(m.registers[Desk.FULL]));
            }
        }
    }

    // ---- Terms: "NUMBER 255: there is none (KEY 0, no nonce)", "(65535 for 255)", "(no bytes with 255)"

    private static void withoutCipher() {
        for (int kind = 1; kind <= 3; kind += 2) {
            Desk begun = talking(kind, 255);
            Model m = modelOf(begun, kind, 255);
            m.secret(0, 2, Desk.SPARE);
            for (int c = 0; c <= 1; c++) {
                int context = c;
                for (int what = 0; what <= 1; what++) {
                    int one = what;
                    Desk desk = begun.fork();
                    checks.due("secret " + what + " without bytes", desk.call(x -> x.secret(context, one, Desk.FULL)), 0);
                    checks.due("nothing came", desk.read(Desk.FULL), "");
                }
                checks.due("its exporter", begun.secret(c, 2), Checks.hex(m.registers[Desk.SPARE]));
                Refusals none = new Refusals(checks, begun::fork);
                none.bad("seal", x -> x.seal(context, Desk.SPARE, Desk.INFO, Desk.NAME));
                none.bad("unseal", x -> x.unseal(context, Desk.SPARE, Desk.INFO, Desk.FULL));
                place(begun, c, END);
                dueSequence("it has a sequence", begun, c, END);
            }
        }
    }

    // ---- Terms: "CONTEXTS 0 .. 3", each with a suite and a SEQUENCE of its own

    private static void contextsAreApart() {
        int[][] suites = {{1, 1}, {3, 2}, {1, 3}, {3, 255}};
        Desk desk = Desk.registers();
        Model m = desk.model();
        for (int i = 0; i <= 3; i++) {
            int c = i;
            int[] suite = suites[i];
            desk.call(x -> x.sender(c, 0, suite[0], suite[1], Desk.SPARE, Desk.OWN, Desk.THEIR_PUBLIC));
            m.sender(c, 0, suite[0], suite[1], Desk.SPARE, Desk.OWN, Desk.THEIR_PUBLIC);
        }
        for (int c : new int[] {3, 0, 2, 1, 1, 3, 2, 0}) {
            checks.due("export of " + c, desk.call(x -> x.export(c, Desk.SPARE, Desk.INFO, 70)), 70);
            m.export(c, Desk.SPARE, Desk.INFO, 70);
            checks.due("exported of " + c, desk.read(Desk.SPARE), Checks.hex(m.registers[Desk.SPARE]));
            checks.due("seal by " + c, desk.call(x -> x.seal(c, Desk.SPARE, Desk.INFO, Desk.NAME)), m.seal(c, Desk.SPARE, Desk.INFO, Desk.NAME));
            checks.due("sealed by " + c, desk.read(Desk.SPARE), Checks.hex(m.registers[Desk.SPARE]));
            checks.due("pair in between", desk.call(x -> x.pair(Desk.EMPTY, Desk.SPARE, Desk.NAME)), m.pair(Desk.EMPTY, Desk.SPARE, Desk.NAME));
            for (int i = 0; i <= 3; i++) {
                int other = i;
                checks.due("sequence of " + i, desk.ask(x -> x.told(other, 6)), m.told(i, 6));
            }
        }
    }
}
