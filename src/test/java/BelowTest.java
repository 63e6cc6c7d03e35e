/** Promises 9 to 16: hashes, keyed hashes, expansion, agreement and ciphers, by published rows and the model. */
public final class BelowTest {
    private static final Checks checks = new Checks();
    private static final int[] NO_REGISTERS = {-1, 16, Integer.MIN_VALUE, Integer.MAX_VALUE};
    private static final int[] NO_KINDS = {0, 2, 4, -1, Integer.MIN_VALUE, Integer.MAX_VALUE};

    public static void main(String[] args) {
        hash();
        mac();
        expand();
        agree();
        agreeAtEdges();
        open();
        pair();
        lockPublished();
        lockAllLengths();
        lockRefusals();
        unlockRefusals();
        checks.end("BelowTest");
    }

    private static void hash() {
        Sealer x = new Sealer();
        x.fill(0, Checks.ofText("abc"));
        checks.due("hash 1", x.hash(1, 1, 0), 32);
        checks.due("hash 1 of abc", x.read(1), "ba7816bf8f01cfea414140de5dae2223b00361a396177a9cb410ff61f20015ad");
        checks.due("hash 3", x.hash(3, 1, 0), 64);
        checks.due("hash 3 of abc", x.read(1), "ddaf35a193617abacc417349ae20413112e6fa4e89a97ea20a9eeee64b55d39a"
                + "2192992a274fc1a836ba3c23a3feebbd454d4423643ce80e2a9ac94fa54ca49f");
        checks.due("from stays", x.read(0), "616263");
        for (int n = 0; n <= 300; n++) {
            Sealer y = new Sealer();
            y.fill(0, Checks.rising(n, n));
            for (int kind = 1; kind <= 3; kind += 2) {
                y.hash(kind, 1, 0);
                checks.due("hash " + kind + " of " + n, y.read(1), Checks.hex(Model.digest(kind, Checks.bytes(Checks.rising(n, n)))));
            }
        }
        checks.due("hash onto itself", x.hash(1, 0, 0), 32);
        checks.due("hashed onto itself", x.at(0, 0), 0xba);
        for (int kind : NO_KINDS) {
            checks.due("hash of kind " + kind, x.hash(kind, 1, 0), KeySealer.BAD);
        }
        for (int r : NO_REGISTERS) {
            checks.due("hash to " + r, x.hash(1, r, 0), KeySealer.BAD);
            checks.due("hash from " + r, x.hash(1, 1, r), KeySealer.BAD);
        }
    }

    private static void mac() {
        Sealer x = new Sealer();
        x.fill(0, Checks.ofText("Jefe"));
        x.fill(1, Checks.ofText("what do ya want for nothing?"));
        checks.due("mac 1", x.mac(1, 2, 0, 1), 32);
        checks.due("mac 1 of Jefe", x.read(2), "5bdcc146bf60754e6a042426089575c75a003f089d2739839dec58b964ec3843");
        checks.due("mac 3", x.mac(3, 2, 0, 1), 64);
        checks.due("mac 3 of Jefe", x.read(2), "164b7a7bfcf819e2e395fbe73b56e0a387bd64222e831fd610270cd7ea250554"
                + "9758bf75c05a994a6d034f65f8f0e6fdcaeab1a34d4a6b4b636e070a38bce737");
        for (int n : new int[] {0, 1, 63, 64, 65, 127, 128, 129, 300}) {
            x.fill(3, Checks.rising(7, n));
            for (int kind = 1; kind <= 3; kind += 2) {
                x.mac(kind, 4, 3, 1);
                checks.due("mac " + kind + " of key " + n, x.read(4),
                        Checks.hex(Model.keyed(kind, Checks.bytes(Checks.rising(7, n)), Model.text("what do ya want for nothing?"))));
            }
        }
        x.copy(5, 0, 0, 4);
        checks.due("mac all in one", x.mac(1, 5, 5, 5), 32);
        checks.due("maced all in one", x.read(5), Checks.hex(Model.keyed(1, Model.text("Jefe"), Model.text("Jefe"))));
        for (int kind : NO_KINDS) {
            checks.due("mac of kind " + kind, x.mac(kind, 2, 0, 1), KeySealer.BAD);
        }
        for (int r : NO_REGISTERS) {
            checks.due("mac to " + r, x.mac(1, r, 0, 1), KeySealer.BAD);
            checks.due("mac key " + r, x.mac(1, 2, r, 1), KeySealer.BAD);
            checks.due("mac from " + r, x.mac(1, 2, 0, r), KeySealer.BAD);
        }
    }

    private static void expand() {
        Sealer x = new Sealer();
        x.fill(0, Checks.same(0x0b, 22));
        x.fill(1, Checks.rising(0, 13));
        x.fill(2, Checks.rising(0xf0, 10));
        x.mac(1, 3, 1, 0);
        checks.due("extract", x.read(3), "077709362c2e32df0ddc3f0dc47bba6390b6c73bb50f9c3122ec844ad7c2b3e5");
        checks.due("expand", x.expand(1, 4, 3, 2, 42), 42);
        checks.due("expanded", x.read(4),
                "3cb25f25faacd57a90434f64d0362f2a2d2d0a90cf1a5a4c5db02d56ecc4c5bf34007208d5b887185865");
        for (int n : new int[] {0, 1, 31, 32, 33, 63, 64, 65, 255, 256, 257, 299, 300}) {
            for (int kind = 1; kind <= 3; kind += 2) {
                Sealer y = new Sealer();
                y.fill(0, Checks.rising(n, 40));
                y.fill(1, Checks.rising(3, n));
                y.fill(5, "01");
                checks.due("expand " + kind + " to " + n, y.expand(kind, 5, 0, 1, n), n);
                checks.due("expanded " + kind + " to " + n, y.read(5),
                        Checks.hex(Model.stretched(kind, Checks.bytes(Checks.rising(n, 40)), Checks.bytes(Checks.rising(3, n)), n)));
            }
        }
        checks.due("expand all in one", x.expand(3, 2, 2, 2, 200), 200);
        checks.due("expanded all in one", x.read(2),
                Checks.hex(Model.stretched(3, Checks.bytes(Checks.rising(0xf0, 10)), Checks.bytes(Checks.rising(0xf0, 10)), 200)));
        for (int n : new int[] {-1, 301, Integer.MIN_VALUE, Integer.MAX_VALUE}) {
            checks.due("expand to " + n, x.expand(1, 4, 3, 1, n), KeySealer.BAD);
        }
        for (int kind : NO_KINDS) {
            checks.due("expand of kind " + kind, x.expand(kind, 4, 3, 1, 5), KeySealer.BAD);
        }
        for (int r : NO_REGISTERS) {
            checks.due("expand to register " + r, x.expand(1, r, 3, 1, 5), KeySealer.BAD);
            checks.due("expand key " + r, x.expand(1, 4, r, 1, 5), KeySealer.BAD);
            checks.due("expand info " + r, x.expand(1, 4, 3, r, 5), KeySealer.BAD);
        }
        checks.due("refused ones do nothing", x.size(4), 42);
    }

    private static void agreeOnce(String key, String other, String want) {
        Sealer x = new Sealer();
        x.fill(0, key);
        x.fill(1, other);
        checks.due("agree", x.agree(2, 0, 1), 32);
        checks.due("agreed", x.read(2), want);
        checks.due("agree onto the key", x.agree(0, 0, 1), 32);
        checks.due("agreed onto the key", x.read(0), want);
    }

    private static void agree() {
        agreeOnce("a546e36bf0527c9d3b16154b82465edd62144c0ac1fc5a18506a2244ba449ac4",
                "e6db6867583030db3594c1a424b15f7c726624ec26b3353b10a903a6d0ab1c4c",
                "c3da55379de9c6908e94ea4df28d084f32eccf03491c71f754b4075577a28552");
        agreeOnce("4b66e9d4d1b4673c5ad22691957d6af5c11b6421e0ea01d42ca4169e7918ba0d",
                "e5210f12786811d3f4b7959d0538ae2c31dbe7106fc03c3efc4cd549c715a493",
                "95cbde9476e8907d7aade45cb4b873f88b595a68799fa152e6f8f7647aac7957");
        Sealer x = new Sealer();
        x.fill(0, Checks.rising(1, 32));
        x.fill(1, Checks.rising(1, 31));
        x.fill(2, Checks.rising(1, 33));
        x.fill(3, "77");
        for (int r : new int[] {1, 2, 9, -1, 16, Integer.MIN_VALUE, Integer.MAX_VALUE}) {
            checks.due("agree with key " + r, x.agree(3, r, 0), KeySealer.BAD);
            checks.due("agree with " + r, x.agree(3, 0, r), KeySealer.BAD);
        }
        for (int r : NO_REGISTERS) {
            checks.due("agree to " + r, x.agree(r, 0, 0), KeySealer.BAD);
        }
        for (String small : new String[] {Checks.same(0, 32), "01" + Checks.same(0, 31), Checks.same(0, 31) + "80"}) {
            x.fill(4, small);
            checks.due("agree to zeros", x.agree(3, 0, 4), KeySealer.INVALID);
        }
        checks.due("refused ones do nothing", x.read(3), "77");
    }

    /** Numbers around the modulus and rows whose limbs are as large as they can be. */
    private static void agreeAtEdges() {
        String[] edges = {Checks.same(255, 32), "ed" + Checks.same(255, 30) + "7f", "ec" + Checks.same(255, 30) + "7f",
            "ee" + Checks.same(255, 30) + "7f", "ef" + Checks.same(255, 30) + "ff", "eb" + Checks.same(255, 30) + "7f",
            "02" + Checks.same(0, 31), "09" + Checks.same(0, 31), Checks.same(0, 31) + "40", Checks.same(170, 32),
            Checks.same(85, 32), Checks.same(0, 16) + Checks.same(255, 16), Checks.same(255, 16) + Checks.same(0, 16),
            "e0eb7a7c3b41b8ae1656e3faf19fc46ada098deb9c32b1fd866205165f49b800",
            "5f9c95bca3508c24b1d0b1559c83ef5b04445cc4581c8e86d8224eddd09f1157", Checks.same(128, 32), Checks.same(127, 32)};
        for (String key : edges) {
            for (String other : edges) {
                Sealer x = new Sealer();
                x.fill(0, key);
                x.fill(1, other);
                byte[] want = Model.agreement(Checks.bytes(key), Checks.bytes(other));
                checks.due("edge " + key + " " + other, x.agree(2, 0, 1), Model.isZero(want) ? KeySealer.INVALID : 32);
                checks.due("edge " + key + " " + other, x.read(2), Model.isZero(want) ? "" : Checks.hex(want));
            }
        }
    }

    private static void open() {
        Sealer x = new Sealer();
        x.fill(0, Checks.same(255, 32));
        checks.due("open", x.open(1, 0), 32);
        checks.due("opened", x.read(1), Checks.hex(Model.opened(Checks.bytes(Checks.same(255, 32)))));
        checks.due("the key stays", x.read(0), Checks.same(255, 32));
        x.fill(2, Checks.rising(0, 32));
        checks.due("open onto itself", x.open(2, 2), 32);
        checks.due("opened onto itself", x.read(2), "8f40c5adb68f25624ae5b214ea767a6ec94d829d3d7b5e1ad1ba6f3e2138285f");
        x.fill(3, Checks.rising(0, 31));
        for (int r : new int[] {3, 9, -1, 16, Integer.MIN_VALUE, Integer.MAX_VALUE}) {
            checks.due("open of " + r, x.open(1, r), KeySealer.BAD);
        }
        for (int r : NO_REGISTERS) {
            checks.due("open to " + r, x.open(r, 0), KeySealer.BAD);
        }
    }

    private static void pair() {
        Sealer x = new Sealer();
        x.fill(0, "7268600d403fce431561aef583ee1613527cff655c1343f29812e66706df3234");
        checks.due("pair", x.pair(1, 2, 0), 32);
        checks.due("pair's key", x.read(1), "52c4a758a802cd8b936eceea314432798d5baf2d7e9235dc084ab1b9cfa2f736");
        checks.due("pair's public key", x.read(2), "37fda3567bdbd628e88668c3c8d7e97d1d1253b6d4ea6d44c150f741f1bf4431");
        checks.due("pair in one", x.pair(3, 3, 0), 32);
        checks.due("the public key counts", x.read(3), x.read(2));
        checks.due("pair onto from", x.pair(0, 4, 0), 32);
        checks.due("key onto from", x.read(0), x.read(1));
        for (int n : new int[] {0, 1, 300}) {
            x.fill(5, Checks.rising(n, n));
            checks.due("pair of " + n, x.pair(6, 5, 5), 32);
            checks.due("pair's key of " + n, x.read(6), Checks.hex(Model.pairKey(Checks.bytes(Checks.rising(n, n)))));
        }
        for (int r : NO_REGISTERS) {
            checks.due("pair to " + r, x.pair(r, 2, 0), KeySealer.BAD);
            checks.due("pair open to " + r, x.pair(1, r, 0), KeySealer.BAD);
            checks.due("pair from " + r, x.pair(1, 2, r), KeySealer.BAD);
        }
    }

    private static void lockOnce(int cipher, String key, String nonce, String aad, String text, String want) {
        Sealer x = new Sealer();
        x.fill(0, key);
        x.fill(1, nonce);
        x.fill(2, aad);
        x.fill(3, text);
        checks.due("lock " + cipher, x.lock(cipher, 4, 0, 1, 2, 3), want.length() / 2);
        checks.due("locked by " + cipher, x.read(4), want);
        checks.due("unlock " + cipher, x.unlock(cipher, 5, 0, 1, 2, 4), text.length() / 2);
        checks.due("unlocked by " + cipher, x.read(5), text);
    }

    private static void lockPublished() {
        String text = "d9313225f88406e5a55909c5aff5269a86a7a9531534f7da2e4c303d8a318a72"
                + "1c3c0c95956809532fcf0e2449a6b525b16aedf5aa0de657ba637b39";
        lockOnce(1, "feffe9928665731c6d6a8f9467308308", "cafebabefacedbaddecaf888", "feedfacedeadbeeffeedfacedeadbeefabaddad2",
                text, "42831ec2217774244b7221b784d0d49ce3aa212f2c02a4e035c17e2329aca12e"
                + "21d514b25466931c7d8f6a5aac84aa051ba30b396a0aac973d58e091" + "5bc94fbc3221a5db94fae95ae7121a47");
        lockOnce(2, "feffe9928665731c6d6a8f9467308308feffe9928665731c6d6a8f9467308308", "cafebabefacedbaddecaf888",
                "feedfacedeadbeeffeedfacedeadbeefabaddad2", text,
                "522dc1f099567d07f47f37a32a84427d643a8cdcbfe5c0c97598a2bd2555d1aa"
                + "8cb08e48590dbb3da7b08b1056828838c5f61e6393ba7a0abcc9f662" + "76fc6ece0f4e1768cddf8853bb2d551b");
        lockOnce(3, Checks.rising(0x80, 32), "070000004041424344454647", "50515253c0c1c2c3c4c5c6c7",
                Checks.ofText("Ladies and Gentlemen of the class of '99: If I could offer you only one tip for the future, "
                + "sunscreen would be it."),
                "d31a8d34648e60db7b86afbc53ef7ec2a4aded51296e08fea9e2b5a736ee62d63dbea45e8ca9671282fafb69da92728b1a71de0a9e06"
                + "0b2905d6a5b67ecd3b3692ddbd7f2d778b8c9803aee328091b58fab324e4fad675945585808b4831d7bc3ff4def08e4b7a9de576d265"
                + "86cec64b6116" + "1ae10b594f09e26a7e902ecbd0600691");
    }

    private static void lockAllLengths() {
        for (int cipher = 1; cipher <= 3; cipher++) {
            String key = Checks.rising(cipher, cipher == 1 ? 16 : 32);
            for (int n = 0; n <= 284; n++) {
                String text = Checks.rising(n, n);
                String aad = Checks.rising(5, (n * 7) % 301);
                lockOnce(cipher, key, Checks.rising(n, 12), aad, text,
                        Checks.hex(Model.locked(cipher, Checks.bytes(key), Checks.bytes(Checks.rising(n, 12)), Checks.bytes(aad), Checks.bytes(text))));
            }
        }
    }

    /** Registers 0, 1: keys of 16 and 32; 2 a nonce; 3 a text; 4 one that is too long; 5 what is locked. */
    private static Sealer locker() {
        Sealer x = new Sealer();
        x.fill(0, Checks.rising(0, 16));
        x.fill(1, Checks.rising(0, 32));
        x.fill(2, Checks.rising(0, 12));
        x.fill(3, Checks.rising(0, 20));
        x.fill(4, Checks.rising(0, 285));
        return x;
    }

    private static void lockRefusals() {
        Sealer x = locker();
        for (int cipher : new int[] {0, 4, -1, 255, Integer.MIN_VALUE, Integer.MAX_VALUE}) {
            checks.due("lock by " + cipher, x.lock(cipher, 9, 1, 2, 3, 3), KeySealer.BAD);
        }
        for (int r : NO_REGISTERS) {
            checks.due("lock to " + r, x.lock(3, r, 1, 2, 3, 3), KeySealer.BAD);
            checks.due("lock key " + r, x.lock(3, 9, r, 2, 3, 3), KeySealer.BAD);
            checks.due("lock nonce " + r, x.lock(3, 9, 1, r, 3, 3), KeySealer.BAD);
            checks.due("lock aad " + r, x.lock(3, 9, 1, 2, r, 3), KeySealer.BAD);
            checks.due("lock text " + r, x.lock(3, 9, 1, 2, 3, r), KeySealer.BAD);
        }
        checks.due("lock 1 by a long key", x.lock(1, 9, 1, 2, 3, 3), KeySealer.BAD);
        checks.due("lock 2 by a short key", x.lock(2, 9, 0, 2, 3, 3), KeySealer.BAD);
        checks.due("lock 3 by a short key", x.lock(3, 9, 0, 2, 3, 3), KeySealer.BAD);
        checks.due("lock by no key", x.lock(1, 9, 10, 2, 3, 3), KeySealer.BAD);
        checks.due("lock with a long nonce", x.lock(3, 9, 1, 3, 3, 3), KeySealer.BAD);
        checks.due("lock without a nonce", x.lock(3, 9, 1, 10, 3, 3), KeySealer.BAD);
        checks.due("lock too much", x.lock(3, 9, 1, 2, 3, 4), KeySealer.FULL);
        checks.due("bad before full", x.lock(3, 9, 0, 2, 3, 4), KeySealer.BAD);
        checks.due("refused ones do nothing", x.size(9), 0);
        checks.due("long aad is no matter", x.lock(3, 9, 1, 2, 4, 3), 36);
        x.copy(4, 4, 0, 284);
        checks.due("lock to the brim", x.lock(3, 4, 1, 2, 3, 4), 300);
        checks.due("lock onto the key", x.lock(2, 1, 1, 2, 1, 1), 48);
        byte[] key = Checks.bytes(Checks.rising(0, 32));
        checks.due("locked onto the key", x.read(1), Checks.hex(Model.locked(2, key, Checks.bytes(Checks.rising(0, 12)), key, key)));
    }

    private static void unlockRefusals() {
        Sealer x = locker();
        for (int cipher : new int[] {0, 4, -1, 255, Integer.MIN_VALUE, Integer.MAX_VALUE}) {
            checks.due("unlock by " + cipher, x.unlock(cipher, 9, 1, 2, 3, 3), KeySealer.BAD);
        }
        for (int r : NO_REGISTERS) {
            checks.due("unlock to " + r, x.unlock(3, r, 1, 2, 3, 3), KeySealer.BAD);
            checks.due("unlock key " + r, x.unlock(3, 9, r, 2, 3, 3), KeySealer.BAD);
            checks.due("unlock nonce " + r, x.unlock(3, 9, 1, r, 3, 3), KeySealer.BAD);
            checks.due("unlock aad " + r, x.unlock(3, 9, 1, 2, r, 3), KeySealer.BAD);
            checks.due("unlock text " + r, x.unlock(3, 9, 1, 2, 3, r), KeySealer.BAD);
        }
        checks.due("unlock by a short key", x.unlock(3, 9, 0, 2, 3, 3), KeySealer.BAD);
        checks.due("unlock with a long nonce", x.unlock(3, 9, 1, 3, 3, 3), KeySealer.BAD);
        for (int cipher = 1; cipher <= 3; cipher++) {
            int key = cipher == 1 ? 0 : 1;
            checks.due("unlock nothing", x.unlock(cipher, 9, key, 2, 3, 10), KeySealer.REFUSED);
            x.copy(5, 1, 0, 15);
            checks.due("unlock 15 bytes", x.unlock(cipher, 9, key, 2, 3, 5), KeySealer.REFUSED);
            x.lock(cipher, 5, key, 2, 3, 3);
            for (int i = 0; i < 36; i++) {
                x.turn(5, i, i & 7);
                checks.due("unlock with a turned bit", x.unlock(cipher, 9, key, 2, 3, 5), KeySealer.REFUSED);
                x.turn(5, i, i & 7);
            }
            checks.due("unlock with another aad", x.unlock(cipher, 9, key, 2, 10, 5), KeySealer.REFUSED);
            checks.due("refused ones do nothing", x.size(9), 0);
            checks.due("unlock", x.unlock(cipher, 5, key, 2, 3, 5), 20);
            checks.due("unlocked", x.read(5), Checks.rising(0, 20));
            x.lock(cipher, 5, key, 2, 10, 10);
            checks.due("lock nothing", x.size(5), 16);
            checks.due("unlock to nothing", x.unlock(cipher, 5, key, 2, 10, 5), 0);
            checks.due("unlocked to nothing", x.size(5), 0);
        }
    }
}
