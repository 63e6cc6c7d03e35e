/** Promises 17 to 25: senders and receivers, by the published rows of each mode and by what the document refuses. */
public final class ContextsTest {
    private static final Checks checks = new Checks();
    private static final int[] NO_REGISTERS = {-1, 16, Integer.MIN_VALUE, Integer.MAX_VALUE};
    private static final int[] NO_CONTEXTS = {-1, 4, Integer.MIN_VALUE, Integer.MAX_VALUE};
    private static final String INFO = "4f6465206f6e2061204772656369616e2055726e";
    private static final String TEXT = "4265617574792069732074727574682c20747275746820626561757479";

    public static void main(String[] args) {
        published();
        use();
        useIsReadWhenOneBegins();
        beginRefusals();
        sharedRefusals();
        invalid();
        oneRegisterForAll();
        longestRows();
        nonce();
        sealRefusals();
        unsealRefusals();
        export();
        sequence();
        told();
        secret();
        withoutCipher();
        checks.end("ContextsTest");
    }

    // ---- rows published for these modes

    private static void published() {
        publishedMode(0, "7268600d403fce431561aef583ee1613527cff655c1343f29812e66706df3234",
                "6db9df30aa07dd42ee5e8181afdb977e538f5e1fec8a06223f33f7013e525037", "",
                "4531685d41d65f03dc48f6b8302c05b0", "56d890e5accaaf011cff4b7d",
                "45ff1c2e220db587171952c0592d5f5ebe103f1561a2614e38f2ffd47e99e3f8");
        publishedMode(1, "78628c354e46f3e169bd231be7b2ff1c77aa302460a26dbfa15515684c00130b",
                "d4a09d09f575fef425905d2ab396c1449141463f698f8efdb7accfaff8995098", "",
                "15026dba546e3ae05836fc7de5a7bb26", "9518635eba129d5ce0914555",
                "3d76025dbbedc49448ec3f9080a1abab6b06e91c0b11ad23c912f043a0ee7655");
        publishedMode(2, "6e6d8f200ea2fb20c30b003a8b4f433d2f4ed4c2658d5bc8ce2fef718059c9f7",
                "f1d4a30a4cef8d6d4e3b016e6fd3799ea057db4f345472ed302a67ce1c20cdec",
                "94b020ce91d73fca4649006c7e7329a67b40c55e9e93cc907d282bbbff386f58",
                "b062cb2c4dd4bca0ad7c7a12bbc341e6", "a1bc314c1942ade7051ffed0",
                "ee1a093e6e1c393c162ea98fdf20560c75909653550540a2700511b65c88c6f1");
        publishedMode(3, "4303619085a20ebcf18edd22782952b8a7161e1dbae6e46e143a52a96127cf84",
                "4b16221f3b269a88e207270b5e1de28cb01f847841b344b8314d6a622fe5ee90",
                "62f77dcf5df0dd7eac54eac9f654f426d4161ec850cc65c54f8b65d2e0b4e345",
                "1364ead92c47aa7becfa95203037b19a", "99d8b5c54669807e9fc70df1",
                "f048d55eacbf60f9c6154bd4021774d1075ebf963c6adc71fa846f183ab2dde6");
        publishedText();
    }

    private static void publishedMode(int mode, String fromE, String fromR, String fromS, String key, String base, String exporter) {
        Sealer x = new Sealer();
        x.fill(6, fromE);
        x.pair(0, 10, 6);
        x.fill(6, fromR);
        x.pair(2, 3, 6);
        x.fill(6, fromS);
        x.pair(4, 5, 6);
        x.fill(7, INFO);
        x.use(0, 7);
        x.use(3, 4);
        x.use(4, 5);
        if ((mode & 1) == 1) {
            x.fill(8, "0247fd33b913760fa1fa51e1892d9f307fbe65eb171e8132c2af18555a738b82");
            x.fill(9, Checks.ofText("Ennyn Durin aran Moria"));
            x.use(1, 8);
            x.use(2, 9);
        }
        checks.due("sender of mode " + mode, x.sender(0, mode, 1, 1, 11, 0, 3), 32);
        checks.due("given by mode " + mode, x.read(11), x.read(10));
        checks.due("receiver of mode " + mode, x.receiver(3, mode, 1, 1, 11, 2), 0);
        for (int context = 0; context <= 3; context += 3) {
            checks.due("secret", x.secret(context, 0, 12), 16);
            checks.due("key of mode " + mode, x.read(12), key);
            checks.due("secret", x.secret(context, 1, 12), 12);
            checks.due("base of mode " + mode, x.read(12), base);
            checks.due("secret", x.secret(context, 2, 12), 32);
            checks.due("exporter of mode " + mode, x.read(12), exporter);
        }
    }

    private static void publishedText() {
        Sealer x = new Sealer();
        x.fill(0, "52c4a758a802cd8b936eceea314432798d5baf2d7e9235dc084ab1b9cfa2f736");
        x.fill(1, "3948cfe0ad1ddb695d780e59077195da6c56506b027329794ab02bca80815c4d");
        x.fill(2, INFO);
        x.fill(3, TEXT);
        x.fill(4, Checks.ofText("Count-0"));
        x.use(0, 2);
        x.sender(2, 0, 1, 1, 5, 0, 1);
        checks.due("seal", x.seal(2, 6, 4, 3), 45);
        checks.due("sealed", x.read(6),
                "f938558b5d72f1a23810b4be2ab4f84331acc02fc97babc53a52ae8218a355a96d8770ac83d07bea87e13c512a");
        x.fill(4, Checks.ofText("Count-1"));
        checks.due("seal", x.seal(2, 6, 4, 3), 45);
        checks.due("sealed again", x.read(6),
                "af2d7e9ac9ae7e270f46ba1f975be53c09f8d875bdc8535458c2494e8a6eab251c03d0c22a56b8ca42c2063b84");
        checks.due("export", x.export(2, 6, 7, 32), 32);
        checks.due("exported", x.read(6), "3853fe2b4035195a573ffc53856e77058e15d9ea064de3e59f4961d0095250ee");
    }

    // ---- beginnings

    /** 0, 1 an own pair, 2, 3 the other's, 4, 5 a lasting one; 8 a shared key, 9 its name; 10 a text. */
    private static Sealer prepared() {
        Sealer x = new Sealer();
        for (int r = 0; r < 6; r += 2) {
            x.fill(r, Checks.rising(11 * r, 32));
            x.open(r + 1, r);
        }
        x.fill(8, "01");
        x.fill(9, "02");
        x.fill(10, TEXT);
        return x;
    }

    private static String keyOf(Sealer x, int context) {
        x.secret(context, 2, 15);
        return x.read(15);
    }

    private static void use() {
        Sealer x = new Sealer();
        for (int what = 0; what <= 4; what++) {
            checks.due("use " + what, x.use(what, 0), 0);
            checks.due("use " + what, x.use(what, 15), 0);
            checks.due("use " + what + " of none", x.use(what, KeySealer.NONE), 0);
            for (int r : new int[] {-2, 16, Integer.MIN_VALUE, Integer.MAX_VALUE}) {
                checks.due("use " + what + " of " + r, x.use(what, r), KeySealer.BAD);
            }
        }
        for (int what : new int[] {-1, 5, Integer.MIN_VALUE, Integer.MAX_VALUE}) {
            checks.due("use " + what, x.use(what, 0), KeySealer.BAD);
            checks.due("use " + what + " of none", x.use(what, KeySealer.NONE), KeySealer.BAD);
        }
    }

    private static void useIsReadWhenOneBegins() {
        Sealer x = prepared();
        x.fill(7, "aa");
        x.use(0, 7);
        x.sender(0, 0, 1, 1, 11, 0, 3);
        String first = keyOf(x, 0);
        x.fill(7, "bb");
        checks.due("a context keeps what it has", keyOf(x, 0), first);
        x.sender(1, 0, 1, 1, 11, 0, 3);
        checks.due("info is another", keyOf(x, 1).equals(first) ? 1 : 0, 0);
        x.fill(7, "aa");
        x.use(0, 16);
        x.sender(1, 0, 1, 1, 11, 0, 3);
        checks.due("a refused use does nothing", keyOf(x, 1), first);
        x.use(0, KeySealer.NONE);
        x.sender(1, 0, 1, 1, 11, 0, 3);
        x.use(0, 14);
        x.sender(2, 0, 1, 1, 11, 0, 3);
        checks.due("no register is as one without bytes", keyOf(x, 1), keyOf(x, 2));
    }

    private static void beginRefusals() {
        Sealer x = prepared();
        x.fill(6, Checks.rising(0, 31));
        x.use(3, 4);
        x.use(4, 5);
        for (int c : NO_CONTEXTS) {
            checks.due("sender " + c, x.sender(c, 0, 1, 1, 11, 0, 3), KeySealer.BAD);
            checks.due("receiver " + c, x.receiver(c, 0, 1, 1, 1, 2), KeySealer.BAD);
        }
        for (int mode : new int[] {-1, 4, Integer.MIN_VALUE, Integer.MAX_VALUE}) {
            checks.due("sender of mode " + mode, x.sender(0, mode, 1, 1, 11, 0, 3), KeySealer.BAD);
            checks.due("receiver of mode " + mode, x.receiver(0, mode, 1, 1, 1, 2), KeySealer.BAD);
        }
        for (int kind : new int[] {0, 2, 4, -1, Integer.MIN_VALUE, Integer.MAX_VALUE}) {
            checks.due("sender of kind " + kind, x.sender(0, 0, kind, 1, 11, 0, 3), KeySealer.BAD);
            checks.due("receiver of kind " + kind, x.receiver(0, 0, kind, 1, 1, 2), KeySealer.BAD);
        }
        for (int cipher : new int[] {0, 4, -1, 254, 256, 65535, Integer.MIN_VALUE, Integer.MAX_VALUE}) {
            checks.due("sender by " + cipher, x.sender(0, 0, 1, cipher, 11, 0, 3), KeySealer.BAD);
            checks.due("receiver by " + cipher, x.receiver(0, 0, 1, cipher, 1, 2), KeySealer.BAD);
        }
        for (int r : NO_REGISTERS) {
            checks.due("sender to " + r, x.sender(0, 0, 1, 1, r, 0, 3), KeySealer.BAD);
        }
        for (int r : new int[] {6, 14, -1, 16, Integer.MIN_VALUE, Integer.MAX_VALUE}) {
            checks.due("sender with key " + r, x.sender(0, 0, 1, 1, 11, r, 3), KeySealer.BAD);
            checks.due("sender for " + r, x.sender(0, 0, 1, 1, 11, 0, r), KeySealer.BAD);
            checks.due("receiver got " + r, x.receiver(0, 0, 1, 1, r, 2), KeySealer.BAD);
            checks.due("receiver with key " + r, x.receiver(0, 0, 1, 1, 1, r), KeySealer.BAD);
        }
        checks.due("nothing was done", x.told(0, 0), 0);
        checks.due("nothing was given", x.size(11), 0);
        lastingRefusals(x);
    }

    private static void lastingRefusals(Sealer x) {
        for (int r : new int[] {KeySealer.NONE, 6, 14}) {
            x.use(3, r);
            x.use(4, 5);
            checks.due("mode 2 without its lasting key", x.sender(0, 2, 1, 1, 11, 0, 3), KeySealer.BAD);
            checks.due("mode 3: bad before shared", x.sender(0, 3, 1, 1, 11, 0, 3), KeySealer.BAD);
            checks.due("mode 0 needs none", x.sender(1, 0, 1, 1, 12, 0, 3), 32);
            checks.due("a receiver needs none", x.receiver(1, 2, 1, 1, 1, 2), 0);
            x.use(3, 4);
            x.use(4, r);
            checks.due("mode 2 without the lasting public key", x.receiver(0, 2, 1, 1, 1, 2), KeySealer.BAD);
            checks.due("mode 3 without it", x.receiver(0, 3, 1, 1, 1, 2), KeySealer.BAD);
            checks.due("mode 0 needs none", x.receiver(1, 0, 1, 1, 1, 2), 0);
            checks.due("a sender needs none", x.sender(1, 2, 1, 1, 12, 0, 3), 32);
        }
        checks.due("nothing was done", x.told(0, 0), 0);
        checks.due("nothing was given", x.size(11), 0);
    }

    private static void sharedRefusals() {
        Sealer x = prepared();
        x.use(3, 4);
        x.use(4, 5);
        int[] holders = {KeySealer.NONE, 14, 8};
        for (int mode = 0; mode <= 3; mode++) {
            for (int key : holders) {
                for (int name : holders) {
                    x.use(1, key);
                    x.use(2, name);
                    boolean wanted = (mode & 1) == 1;
                    boolean fine = (key == 8) == wanted && (name == 8) == wanted;
                    String what = "mode " + mode + " with " + key + " " + name;
                    checks.due(what, x.sender(0, mode, 1, 1, 11, 0, 3), fine ? 32 : KeySealer.SHARED);
                    checks.due(what, x.receiver(1, mode, 1, 1, 1, 2), fine ? 0 : KeySealer.SHARED);
                    checks.due("bad before shared", x.sender(0, mode, 2, 1, 11, 0, 3), KeySealer.BAD);
                }
            }
        }
    }

    private static void invalid() {
        Sealer x = prepared();
        x.fill(7, Checks.same(0, 32));
        x.use(3, 4);
        x.use(4, 5);
        x.sender(0, 0, 1, 3, 11, 0, 3);
        String before = keyOf(x, 0);
        x.fill(11, "55");
        checks.due("sender to zeros", x.sender(0, 0, 1, 1, 11, 0, 7), KeySealer.INVALID);
        checks.due("sender to zeros", x.sender(0, 2, 1, 1, 11, 0, 7), KeySealer.INVALID);
        checks.due("shared before invalid", x.sender(0, 1, 1, 1, 11, 0, 7), KeySealer.SHARED);
        checks.due("receiver of zeros", x.receiver(0, 0, 1, 1, 7, 2), KeySealer.INVALID);
        x.use(4, 7);
        checks.due("lasting key of zeros", x.receiver(0, 2, 1, 1, 1, 2), KeySealer.INVALID);
        checks.due("mode 0 does not look at it", x.receiver(1, 0, 1, 1, 1, 2), 0);
        checks.due("nothing was given", x.read(11), "55");
        checks.due("the context is as it was", keyOf(x, 0), before);
        checks.due("the context is as it was", x.told(0, 0), 1);
        checks.due("the context is as it was", x.told(0, 3), 3);
    }

    /** What a sender gives comes last, so info, shared key and keys may all be in its register. */
    private static void oneRegisterForAll() {
        Sealer x = prepared();
        x.copy(6, 4, 0, 32);
        for (int what = 0; what <= 3; what++) {
            x.use(what, 4);
        }
        checks.due("sender apart", x.sender(0, 3, 3, 2, 11, 6, 6), 32);
        checks.due("sender in one", x.sender(1, 3, 3, 2, 4, 4, 4), 32);
        checks.due("the same is given", x.read(4), x.read(11));
        checks.due("the same is had", keyOf(x, 1), keyOf(x, 0));
    }

    /** Registers to the brim for info, the shared key, its name and what exports are for. */
    private static void longestRows() {
        Sealer x = prepared();
        Model m = new Model();
        for (int r : new int[] {0, 3, 4}) {
            m.registers[r] = Checks.bytes(x.read(r));
        }
        for (int i = 0; i < 300; i++) {
            x.add(6, 1, 3 * i);
            m.add(6, 1, 3 * i);
        }
        for (int what = 0; what <= 2; what++) {
            x.use(what, 6);
            m.use(what, 6);
        }
        x.use(3, 4);
        m.use(3, 4);
        for (int kind = 1; kind <= 3; kind += 2) {
            checks.due("sender", x.sender(0, 3, kind, 3, 11, 0, 3), m.sender(0, 3, kind, 3, 11, 0, 3));
            checks.due("export", x.export(0, 12, 6, 300), m.export(0, 12, 6, 300));
            checks.due("exported", x.read(12), Checks.hex(m.registers[12]));
            for (int what = 0; what <= 2; what++) {
                checks.due("secret", x.secret(0, what, 12), m.secret(0, what, 12));
                checks.due("secret " + what, x.read(12), Checks.hex(m.registers[12]));
            }
        }
    }

    // ---- contexts

    /** A seal is a lock by the context's key and its base ^ SEQUENCE, byte for byte. */
    private static void nonce() {
        for (int cipher = 1; cipher <= 3; cipher++) {
            Sealer x = prepared();
            x.sender(0, 0, 1, cipher, 11, 0, 3);
            x.sequence(0, 0xf1e2d3c4, 0xb5a69788, 0x796a5b4c);
            x.secret(0, 0, 12);
            x.secret(0, 1, 13);
            String base = x.read(13);
            String sequence = "f1e2d3c4b5a69788796a5b4c";
            StringBuilder both = new StringBuilder();
            for (int i = 0; i < 24; i++) {
                int digit = Character.digit(base.charAt(i), 16) ^ Character.digit(sequence.charAt(i), 16);
                both.append(Character.forDigit(digit, 16));
            }
            x.fill(13, both.toString());
            checks.due("seal", x.seal(0, 14, 9, 10), 45);
            checks.due("lock", x.lock(cipher, 15, 12, 13, 9, 10), 45);
            checks.due("the same", x.read(14), x.read(15));
        }
    }

    /** A sender in 0 and a receiver in 1, by cipher 3. */
    private static Sealer talking() {
        Sealer x = prepared();
        x.sender(0, 0, 1, 3, 11, 0, 3);
        x.receiver(1, 0, 1, 3, 11, 2);
        return x;
    }

    private static void sealRefusals() {
        Sealer x = talking();
        x.fill(6, Checks.rising(0, 285));
        for (int c : new int[] {1, 2, -1, 4, Integer.MIN_VALUE, Integer.MAX_VALUE}) {
            checks.due("seal by " + c, x.seal(c, 12, 9, 10), KeySealer.BAD);
        }
        for (int r : NO_REGISTERS) {
            checks.due("seal to " + r, x.seal(0, r, 9, 10), KeySealer.BAD);
            checks.due("seal aad " + r, x.seal(0, 12, r, 10), KeySealer.BAD);
            checks.due("seal text " + r, x.seal(0, 12, 9, r), KeySealer.BAD);
        }
        checks.due("seal too much", x.seal(0, 12, 9, 6), KeySealer.FULL);
        checks.due("sequence stays", x.told(0, 6), 0);
        x.sequence(0, -1, -1, -1);
        checks.due("limit before full", x.seal(0, 12, 9, 6), KeySealer.LIMIT);
        checks.due("limit", x.seal(0, 12, 9, 10), KeySealer.LIMIT);
        checks.due("bad before limit", x.seal(0, 16, 9, 10), KeySealer.BAD);
        checks.due("sequence stays", x.told(0, 6), -1);
        checks.due("nothing was given", x.size(12), 0);
        x.sequence(0, 0, 0, 0);
        x.copy(6, 6, 0, 284);
        checks.due("seal to the brim", x.seal(0, 6, 6, 6), 300);
        x.fill(7, Checks.rising(0, 284));
        checks.due("unseal from the brim", x.unseal(1, 6, 7, 6), 284);
        checks.due("unsealed", x.read(6), Checks.rising(0, 284));
    }

    private static void unsealRefusals() {
        Sealer x = talking();
        checks.due("seal", x.seal(0, 12, 9, 10), 45);
        for (int c : new int[] {0, 2, -1, 4, Integer.MIN_VALUE, Integer.MAX_VALUE}) {
            checks.due("unseal by " + c, x.unseal(c, 13, 9, 12), KeySealer.BAD);
        }
        for (int r : NO_REGISTERS) {
            checks.due("unseal to " + r, x.unseal(1, r, 9, 12), KeySealer.BAD);
            checks.due("unseal aad " + r, x.unseal(1, 13, r, 12), KeySealer.BAD);
            checks.due("unseal text " + r, x.unseal(1, 13, 9, r), KeySealer.BAD);
        }
        checks.due("unseal nothing", x.unseal(1, 13, 9, 14), KeySealer.REFUSED);
        checks.due("unseal with another aad", x.unseal(1, 13, 14, 12), KeySealer.REFUSED);
        x.turn(12, 44, 7);
        checks.due("unseal with a turned bit", x.unseal(1, 13, 9, 12), KeySealer.REFUSED);
        x.turn(12, 44, 7);
        checks.due("sequence stays", x.told(1, 6), 0);
        x.sequence(1, -1, -1, -1);
        checks.due("limit before refused", x.unseal(1, 13, 9, 14), KeySealer.LIMIT);
        checks.due("limit", x.unseal(1, 13, 9, 12), KeySealer.LIMIT);
        checks.due("bad before limit", x.unseal(1, 13, 9, 16), KeySealer.BAD);
        x.sequence(1, 0, 0, 1);
        checks.due("unseal out of turn", x.unseal(1, 13, 9, 12), KeySealer.REFUSED);
        checks.due("nothing was given", x.size(13), 0);
        x.sequence(1, 0, 0, 0);
        checks.due("unseal", x.unseal(1, 12, 9, 12), 29);
        checks.due("unsealed", x.read(12), TEXT);
        checks.due("sequence is one more", x.told(1, 6), 1);
    }

    private static void export() {
        Sealer x = talking();
        for (int n : new int[] {0, 1, 32, 33, 300}) {
            x.fill(12, "0102");
            checks.due("export " + n, x.export(0, 12, 10, n), n);
            checks.due("exported " + n, x.size(12), n);
            checks.due("export " + n, x.export(1, 13, 10, n), n);
            checks.due("the same", x.read(13), x.read(12));
        }
        checks.due("export onto info", x.export(0, 10, 10, 300), 300);
        checks.due("the same", x.read(10), x.read(12));
        for (int n : new int[] {-1, 301, Integer.MIN_VALUE, Integer.MAX_VALUE}) {
            checks.due("export " + n, x.export(0, 12, 10, n), KeySealer.BAD);
        }
        for (int c : new int[] {2, 3, -1, 4, Integer.MIN_VALUE, Integer.MAX_VALUE}) {
            checks.due("export of " + c, x.export(c, 12, 10, 5), KeySealer.BAD);
        }
        for (int r : NO_REGISTERS) {
            checks.due("export to " + r, x.export(0, r, 10, 5), KeySealer.BAD);
            checks.due("export info " + r, x.export(0, 12, r, 5), KeySealer.BAD);
        }
        checks.due("sequence stays", x.told(0, 6), 0);
    }

    private static void sequence() {
        Sealer x = talking();
        int[][] steps = {{0, 0, 0, 0, 0, 1}, {0, 0, -1, 0, 1, 0}, {0, -1, -1, 1, 0, 0}, {5, 6, Integer.MAX_VALUE, 5, 6, Integer.MIN_VALUE},
            {Integer.MIN_VALUE, -1, -1, Integer.MIN_VALUE + 1, 0, 0}, {-1, -1, -2, -1, -1, -1}, {-1, 0, -1, -1, 1, 0}};
        for (int[] s : steps) {
            String what = "sequence " + s[0] + " " + s[1] + " " + s[2];
            for (int c = 0; c <= 1; c++) {
                checks.due(what, x.sequence(c, s[0], s[1], s[2]), 0);
            }
            checks.due(what + " seals", x.seal(0, 12, 9, 10), 45);
            checks.due(what + " opens", x.unseal(1, 12, 9, 12), 29);
            for (int c = 0; c <= 1; c++) {
                for (int i = 0; i < 3; i++) {
                    checks.due(what + " then " + i, x.told(c, 4 + i), s[3 + i]);
                }
            }
        }
        for (int c : new int[] {2, 3, -1, 4, Integer.MIN_VALUE, Integer.MAX_VALUE}) {
            checks.due("sequence of " + c, x.sequence(c, 0, 0, 0), KeySealer.BAD);
        }
        x.sequence(0, 7, 8, 9);
        x.sender(0, 0, 1, 3, 11, 0, 3);
        checks.due("a new one begins at 0", x.told(0, 4) | x.told(0, 5) | x.told(0, 6), 0);
    }

    private static void told() {
        Sealer x = prepared();
        x.use(1, 8);
        x.use(2, 9);
        x.use(3, 4);
        x.sender(3, 3, 3, 255, 11, 0, 3);
        x.sequence(3, 1, 2, 3);
        int[] want = {1, 3, 3, 255, 1, 2, 3};
        for (int what = 0; what <= 6; what++) {
            checks.due("told " + what, x.told(3, what), want[what]);
            checks.due("told " + what + " of none", x.told(2, what), 0);
        }
        x.receiver(3, 1, 1, 2, 1, 2);
        int[] later = {2, 1, 1, 2, 0, 0, 0};
        for (int what = 0; what <= 6; what++) {
            checks.due("told later " + what, x.told(3, what), later[what]);
        }
        for (int what : new int[] {-1, 7, Integer.MIN_VALUE, Integer.MAX_VALUE}) {
            checks.due("told " + what, x.told(3, what), KeySealer.BAD);
            checks.due("told " + what + " of none", x.told(2, what), KeySealer.BAD);
        }
        for (int c : NO_CONTEXTS) {
            checks.due("told of " + c, x.told(c, 0), KeySealer.BAD);
        }
    }

    private static void secret() {
        Sealer x = prepared();
        int[][] sizes = {{1, 1, 16, 12, 32}, {1, 2, 32, 12, 32}, {3, 3, 32, 12, 64}, {3, 255, 0, 0, 64}, {1, 255, 0, 0, 32}};
        for (int[] s : sizes) {
            x.sender(0, 0, s[0], s[1], 11, 0, 3);
            for (int what = 0; what <= 2; what++) {
                x.fill(12, "0102");
                checks.due("secret " + what + " of " + s[1], x.secret(0, what, 12), s[2 + what]);
                checks.due("size of it", x.size(12), s[2 + what]);
            }
        }
        for (int what : new int[] {-1, 3, Integer.MIN_VALUE, Integer.MAX_VALUE}) {
            checks.due("secret " + what, x.secret(0, what, 12), KeySealer.BAD);
        }
        for (int c : new int[] {1, 2, 3, -1, 4, Integer.MIN_VALUE, Integer.MAX_VALUE}) {
            checks.due("secret of " + c, x.secret(c, 0, 12), KeySealer.BAD);
        }
        for (int r : NO_REGISTERS) {
            checks.due("secret to " + r, x.secret(0, 2, r), KeySealer.BAD);
        }
        checks.due("refused ones do nothing", x.size(12), 32);
    }

    private static void withoutCipher() {
        Sealer x = prepared();
        checks.due("sender by 255", x.sender(0, 0, 1, 255, 11, 0, 3), 32);
        checks.due("receiver by 255", x.receiver(1, 0, 1, 255, 11, 2), 0);
        checks.due("it does not seal", x.seal(0, 12, 9, 10), KeySealer.BAD);
        checks.due("nor open", x.unseal(1, 12, 9, 10), KeySealer.BAD);
        x.sequence(0, -1, -1, -1);
        checks.due("bad before limit", x.seal(0, 12, 9, 10), KeySealer.BAD);
        checks.due("it exports", x.export(0, 12, 9, 50), 50);
        checks.due("it exports", x.export(1, 13, 9, 50), 50);
        checks.due("the same", x.read(12), x.read(13));
    }
}
