/**
 * Sealing to a public key in four modes: registers of bytes, the hashes, keyed hashes, agreement and ciphers
 * below it, and contexts that seal, open and export. The promises are those of the project's document.
 */
public final class KeySealer {
    public static final int NONE = -1, BAD = -2, FULL = -3, INVALID = -11, SHARED = -12, LIMIT = -13, REFUSED = -14;

    private static final int REGISTERS = 16;
    private static final int ROOM = 300;
    private static final int CONTEXTS = 4;

    private static final int KEY_BYTES = 32;
    private static final int NONCE_BYTES = 12;
    private static final int TAG_BYTES = 16;
    private static final int LONGEST_HASH = 64;
    private static final int NO_CIPHER = 255;

    private static final int INFO = 0;
    private static final int SHARED_KEY = 1;
    private static final int SHARED_NAME = 2;
    private static final int LASTING_KEY = 3;
    private static final int LASTING_PUBLIC = 4;
    private static final int USES = 5;

    private static final int SENDS = 1;
    private static final int RECEIVES = 2;

    private final Row[] registers = new Row[REGISTERS];
    private final Context[] contexts = new Context[CONTEXTS];
    private final int[] used = new int[USES];
    private final Labels labels = new Labels();
    private final Curve curve = new Curve();
    private final BlockCipher blockCipher = new BlockCipher();
    private final StreamCipher streamCipher = new StreamCipher();

    private final Row nothing = new Row(0);
    /** What a call gives is made here, so that a register that it also reads changes last. */
    private final Row made = new Row(ROOM);
    private final Row nonceNow = new Row(NONCE_BYTES);
    private final Row agreed = new Row(2 * KEY_BYTES);
    private final Row publics = new Row(3 * KEY_BYTES);
    private final Row extracted = new Row(LONGEST_HASH);
    private final Row secretNow = new Row(KEY_BYTES);
    private final Row schedule = new Row(1 + 2 * LONGEST_HASH);

    public KeySealer() {
        for (int i = 0; i < REGISTERS; i++) {
            registers[i] = new Row(ROOM);
        }
        for (int i = 0; i < CONTEXTS; i++) {
            contexts[i] = new Context();
        }
        for (int i = 0; i < USES; i++) {
            used[i] = NONE;
        }
    }

    // ---- registers

    public int add(int r, int n, long w) {
        if (!isRegister(r) || n < 1 || n > 8) {
            return BAD;
        }
        Row row = registers[r];
        if (!row.hasRoom(n)) {
            return FULL;
        }
        row.putNumber(w, n);
        return row.size;
    }

    public int clear(int r) {
        if (!isRegister(r)) {
            return BAD;
        }
        int had = registers[r].size;
        registers[r].empty();
        return had;
    }

    public int copy(int to, int from, int begin, int n) {
        if (!isRegister(to) || !isRegister(from) || !registers[from].hasPart(begin, n)) {
            return BAD;
        }
        made.empty();
        made.putPart(registers[from], begin, n);
        return give(to);
    }

    public int join(int to, int from) {
        if (!isRegister(to) || !isRegister(from)) {
            return BAD;
        }
        if (!registers[to].hasRoom(registers[from].size)) {
            return FULL;
        }
        registers[to].putRow(registers[from]);
        return registers[to].size;
    }

    public int turn(int r, int i, int bit) {
        if (!isRegister(r) || !registers[r].hasPart(i, 1) || bit < 0 || bit > 7) {
            return BAD;
        }
        return registers[r].turnBit(i, bit);
    }

    public int size(int r) {
        return isRegister(r) ? registers[r].size : BAD;
    }

    public int at(int r, int i) {
        if (!isRegister(r)) {
            return BAD;
        }
        return registers[r].hasPart(i, 1) ? registers[r].byteAt(i) : NONE;
    }

    // ---- hashes, agreement, ciphers

    public int hash(int kind, int to, int from) {
        if (!isRegister(to) || !isRegister(from) || !isKind(kind)) {
            return BAD;
        }
        labels.keyed.digest.begin(kind);
        labels.keyed.digest.takeRow(registers[from]);
        labels.keyed.digest.finish(made);
        return give(to);
    }

    public int mac(int kind, int to, int key, int from) {
        if (!isRegister(to) || !isRegister(key) || !isRegister(from) || !isKind(kind)) {
            return BAD;
        }
        labels.keyed.begin(kind, registers[key]);
        labels.keyed.digest.takeRow(registers[from]);
        labels.keyed.finish(made);
        return give(to);
    }

    public int expand(int kind, int to, int key, int info, int n) {
        if (!isRegister(to) || !isRegister(key) || !isRegister(info) || !isKind(kind) || !isLength(n)) {
            return BAD;
        }
        labels.keyed.stretch(kind, registers[key], registers[info], n, made);
        return give(to);
    }

    public int agree(int to, int key, int other) {
        if (!isRegister(to) || !holdsKey(key) || !holdsKey(other)) {
            return BAD;
        }
        made.empty();
        return curve.putAgreement(registers[key], registers[other], made) ? give(to) : INVALID;
    }

    public int open(int to, int key) {
        if (!isRegister(to) || !holdsKey(key)) {
            return BAD;
        }
        made.empty();
        curve.putPublic(registers[key], made);
        return give(to);
    }

    public int pair(int key, int open, int from) {
        if (!isRegister(key) || !isRegister(open) || !isRegister(from)) {
            return BAD;
        }
        labels.beginAgreement();
        labels.extract(nothing, "dkp_prk", registers[from], extracted);
        labels.stretch(extracted, "sk", nothing, KEY_BYTES, secretNow);
        made.empty();
        curve.putPublic(secretNow, made);
        registers[key].become(secretNow);
        return give(open);
    }

    public int lock(int cipher, int to, int key, int nonce, int aad, int text) {
        if (!isLocking(cipher, key, nonce) || !isRegister(to) || !isRegister(aad) || !isRegister(text)) {
            return BAD;
        }
        if (!fitsWithTag(text)) {
            return FULL;
        }
        Cipher chosen = cipherOf(cipher);
        chosen.begin(registers[key], registers[nonce]);
        chosen.protect(registers[aad], registers[text], made);
        return give(to);
    }

    public int unlock(int cipher, int to, int key, int nonce, int aad, int text) {
        if (!isLocking(cipher, key, nonce) || !isRegister(to) || !isRegister(aad) || !isRegister(text)) {
            return BAD;
        }
        Cipher chosen = cipherOf(cipher);
        chosen.begin(registers[key], registers[nonce]);
        return chosen.reveal(registers[aad], registers[text], made) ? give(to) : REFUSED;
    }

    // ---- contexts

    public int use(int what, int r) {
        if (what < 0 || what >= USES || (r != NONE && !isRegister(r))) {
            return BAD;
        }
        used[what] = r;
        return 0;
    }

    public int sender(int context, int mode, int kind, int cipher, int to, int key, int other) {
        if (!isContext(context) || !isSuite(mode, kind, cipher) || !isRegister(to)
                || !holdsKey(key) || !holdsKey(other) || !lastingFits(mode, LASTING_KEY)) {
            return BAD;
        }
        if (!sharedFits(mode)) {
            return SHARED;
        }
        if (!agreeToSend(isKnown(mode), registers[key], registers[other])) {
            return INVALID;
        }
        contexts[context].begin(SENDS, mode, kind, cipher);
        fillContext(contexts[context]);
        made.empty();
        made.putPart(publics, 0, KEY_BYTES);
        return give(to);
    }

    public int receiver(int context, int mode, int kind, int cipher, int got, int key) {
        if (!isContext(context) || !isSuite(mode, kind, cipher)
                || !holdsKey(got) || !holdsKey(key) || !lastingFits(mode, LASTING_PUBLIC)) {
            return BAD;
        }
        if (!sharedFits(mode)) {
            return SHARED;
        }
        if (!agreeToReceive(isKnown(mode), registers[got], registers[key])) {
            return INVALID;
        }
        contexts[context].begin(RECEIVES, mode, kind, cipher);
        fillContext(contexts[context]);
        return 0;
    }

    public int seal(int context, int to, int aad, int text) {
        if (!canCipher(context, SENDS) || !isRegister(to) || !isRegister(aad) || !isRegister(text)) {
            return BAD;
        }
        Context mine = contexts[context];
        if (mine.isAtEnd()) {
            return LIMIT;
        }
        if (!fitsWithTag(text)) {
            return FULL;
        }
        Cipher chosen = beginCipher(mine);
        chosen.protect(registers[aad], registers[text], made);
        mine.step();
        return give(to);
    }

    public int unseal(int context, int to, int aad, int text) {
        if (!canCipher(context, RECEIVES) || !isRegister(to) || !isRegister(aad) || !isRegister(text)) {
            return BAD;
        }
        Context mine = contexts[context];
        if (mine.isAtEnd()) {
            return LIMIT;
        }
        Cipher chosen = beginCipher(mine);
        if (!chosen.reveal(registers[aad], registers[text], made)) {
            return REFUSED;
        }
        mine.step();
        return give(to);
    }

    public int export(int context, int to, int info, int n) {
        if (!isBegun(context) || !isRegister(to) || !isRegister(info) || !isLength(n)) {
            return BAD;
        }
        Context mine = contexts[context];
        labels.beginSuite(mine.kind, mine.cipher);
        labels.stretch(mine.exporter, "sec", registers[info], n, made);
        return give(to);
    }

    public int sequence(int context, int high, int middle, int low) {
        if (!isBegun(context)) {
            return BAD;
        }
        contexts[context].place(high, middle, low);
        return 0;
    }

    public int told(int context, int what) {
        if (!isContext(context)) {
            return BAD;
        }
        Context mine = contexts[context];
        switch (what) {
            case 0: return mine.role;
            case 1: return mine.mode;
            case 2: return mine.kind;
            case 3: return mine.cipher;
            case 4: return mine.high;
            case 5: return mine.middle;
            case 6: return mine.low;
            default: return BAD;
        }
    }

    public int secret(int context, int what, int to) {
        if (!isBegun(context) || what < 0 || what > 2 || !isRegister(to)) {
            return BAD;
        }
        Context mine = contexts[context];
        Row wanted = what == 0 ? mine.key : what == 1 ? mine.base : mine.exporter;
        registers[to].become(wanted);
        return wanted.size;
    }

    // ---- what a call may name

    private static boolean isRegister(int r) {
        return r >= 0 && r < REGISTERS;
    }

    private static boolean isContext(int context) {
        return context >= 0 && context < CONTEXTS;
    }

    private static boolean isKind(int kind) {
        return kind == 1 || kind == 3;
    }

    private static boolean isLength(int n) {
        return n >= 0 && n <= ROOM;
    }

    private static boolean isCipher(int cipher) {
        return cipher >= 1 && cipher <= 3;
    }

    private static boolean isKnown(int mode) {
        return mode == 2 || mode == 3;
    }

    private static boolean isSuite(int mode, int kind, int cipher) {
        return mode >= 0 && mode <= 3 && isKind(kind) && (isCipher(cipher) || cipher == NO_CIPHER);
    }

    private static int keyBytes(int cipher) {
        if (cipher == NO_CIPHER) {
            return 0;
        }
        return cipher == 1 ? 16 : 32;
    }

    private boolean isBegun(int context) {
        return isContext(context) && contexts[context].role != 0;
    }

    private boolean canCipher(int context, int role) {
        return isContext(context) && contexts[context].role == role && contexts[context].cipher != NO_CIPHER;
    }

    private boolean holdsKey(int r) {
        return isRegister(r) && registers[r].size == KEY_BYTES;
    }

    private boolean isLocking(int cipher, int key, int nonce) {
        return isCipher(cipher) && isRegister(key) && isRegister(nonce)
                && registers[key].size == keyBytes(cipher) && registers[nonce].size == NONCE_BYTES;
    }

    private boolean fitsWithTag(int text) {
        return registers[text].size <= ROOM - TAG_BYTES;
    }

    private boolean lastingFits(int mode, int what) {
        return !isKnown(mode) || usedRow(what).size == KEY_BYTES;
    }

    private boolean sharedFits(int mode) {
        boolean wanted = mode == 1 || mode == 3;
        return (usedRow(SHARED_KEY).size > 0) == wanted && (usedRow(SHARED_NAME).size > 0) == wanted;
    }

    private Row usedRow(int what) {
        int r = used[what];
        return isRegister(r) ? registers[r] : nothing;
    }

    // ---- what several calls do

    private int give(int to) {
        registers[to].become(made);
        return made.size;
    }

    private Cipher cipherOf(int cipher) {
        return cipher == 3 ? streamCipher : blockCipher;
    }

    private Cipher beginCipher(Context mine) {
        mine.writeNonce(nonceNow);
        Cipher chosen = cipherOf(mine.cipher);
        chosen.begin(mine.key, nonceNow);
        return chosen;
    }

    /** Leaves the public key that the sender gives at the front of publics. */
    private boolean agreeToSend(boolean known, Row own, Row theirs) {
        Row lasting = usedRow(LASTING_KEY);
        agreed.empty();
        if (!curve.putAgreement(own, theirs, agreed) || (known && !curve.putAgreement(lasting, theirs, agreed))) {
            return false;
        }
        publics.empty();
        curve.putPublic(own, publics);
        publics.putRow(theirs);
        if (known) {
            curve.putPublic(lasting, publics);
        }
        return true;
    }

    private boolean agreeToReceive(boolean known, Row got, Row own) {
        Row lasting = usedRow(LASTING_PUBLIC);
        agreed.empty();
        if (!curve.putAgreement(own, got, agreed) || (known && !curve.putAgreement(own, lasting, agreed))) {
            return false;
        }
        publics.empty();
        publics.putRow(got);
        curve.putPublic(own, publics);
        if (known) {
            publics.putRow(lasting);
        }
        return true;
    }

    /** SECRET of what was agreed, then SCHEDULE. */
    private void fillContext(Context mine) {
        labels.beginAgreement();
        labels.extract(nothing, "eae_prk", agreed, extracted);
        labels.stretch(extracted, "shared_secret", publics, KEY_BYTES, secretNow);
        labels.beginSuite(mine.kind, mine.cipher);
        schedule.empty();
        schedule.putNumber(mine.mode, 1);
        labels.extract(nothing, "psk_id_hash", usedRow(SHARED_NAME), extracted);
        schedule.putRow(extracted);
        labels.extract(nothing, "info_hash", usedRow(INFO), extracted);
        schedule.putRow(extracted);
        labels.extract(secretNow, "secret", usedRow(SHARED_KEY), extracted);
        labels.stretch(extracted, "key", schedule, keyBytes(mine.cipher), mine.key);
        labels.stretch(extracted, "base_nonce", schedule, mine.cipher == NO_CIPHER ? 0 : NONCE_BYTES, mine.base);
        labels.stretch(extracted, "exp", schedule, mine.kind == 3 ? 64 : 32, mine.exporter);
    }

    /** Bytes up to a limit. It looks at every place itself: none is read or written that is not there. */
    private static final class Row {
        final byte[] bytes;
        int size = 0;

        Row(int limit) {
            bytes = new byte[Math.max(limit, 0)];
        }

        void empty() {
            size = 0;
        }

        boolean hasRoom(int n) {
            return n >= 0 && n <= bytes.length - size;
        }

        boolean hasPart(int begin, int n) {
            return begin >= 0 && n >= 0 && begin <= size && n <= size - begin;
        }

        /** 0 behind the end: keys and blocks that are filled up with zeros need no copy. */
        int byteAt(int i) {
            return i >= 0 && i < size ? bytes[i] & 255 : 0;
        }

        int turnBit(int i, int bit) {
            if (i >= 0 && i < size) {
                bytes[i] = (byte) (bytes[i] ^ (1 << bit));
            }
            return byteAt(i);
        }

        void put(int b) {
            if (size < bytes.length) {
                bytes[size] = (byte) b;
                size++;
            }
        }

        void putNumber(long v, int n) {
            for (int i = n - 1; i >= 0; i--) {
                put((int) (v >>> (8 * i)));
            }
        }

        void putText(String text) {
            for (int i = 0; i < text.length(); i++) {
                put(text.charAt(i));
            }
        }

        /** As many of them as are there and find room; a row may come behind itself. */
        void putPart(Row from, int begin, int n) {
            if (begin < 0) {
                return;
            }
            int many = Math.min(n, Math.min(from.size - begin, bytes.length - size));
            if (many > 0) {
                System.arraycopy(from.bytes, begin, bytes, size, many);
                size += many;
            }
        }

        void putRow(Row from) {
            putPart(from, 0, from.size);
        }

        /** From must be another row. */
        void become(Row from) {
            size = 0;
            putPart(from, 0, from.size);
        }

        boolean isZero() {
            int seen = 0;
            for (int i = 0; i < size; i++) {
                seen |= bytes[i];
            }
            return seen == 0;
        }
    }

    /** HASH of both kinds. The words of kind 1 lie in the lower half of a long. */
    private static final class Digest {
        /** Square roots' bits; kind 1 takes the upper halves, being the first 32 bits of the same roots. */
        private static final long[] STARTS = {
            0x6a09e667f3bcc908L, 0xbb67ae8584caa73bL, 0x3c6ef372fe94f82bL, 0xa54ff53a5f1d36f1L,
            0x510e527fade682d1L, 0x9b05688c2b3e6c1fL, 0x1f83d9abfb41bd6bL, 0x5be0cd19137e2179L,
        };
        /** Cube roots' bits, likewise. */
        private static final long[] CUBES = {
            0x428a2f98d728ae22L, 0x7137449123ef65cdL, 0xb5c0fbcfec4d3b2fL, 0xe9b5dba58189dbbcL,
            0x3956c25bf348b538L, 0x59f111f1b605d019L, 0x923f82a4af194f9bL, 0xab1c5ed5da6d8118L,
            0xd807aa98a3030242L, 0x12835b0145706fbeL, 0x243185be4ee4b28cL, 0x550c7dc3d5ffb4e2L,
            0x72be5d74f27b896fL, 0x80deb1fe3b1696b1L, 0x9bdc06a725c71235L, 0xc19bf174cf692694L,
            0xe49b69c19ef14ad2L, 0xefbe4786384f25e3L, 0x0fc19dc68b8cd5b5L, 0x240ca1cc77ac9c65L,
            0x2de92c6f592b0275L, 0x4a7484aa6ea6e483L, 0x5cb0a9dcbd41fbd4L, 0x76f988da831153b5L,
            0x983e5152ee66dfabL, 0xa831c66d2db43210L, 0xb00327c898fb213fL, 0xbf597fc7beef0ee4L,
            0xc6e00bf33da88fc2L, 0xd5a79147930aa725L, 0x06ca6351e003826fL, 0x142929670a0e6e70L,
            0x27b70a8546d22ffcL, 0x2e1b21385c26c926L, 0x4d2c6dfc5ac42aedL, 0x53380d139d95b3dfL,
            0x650a73548baf63deL, 0x766a0abb3c77b2a8L, 0x81c2c92e47edaee6L, 0x92722c851482353bL,
            0xa2bfe8a14cf10364L, 0xa81a664bbc423001L, 0xc24b8b70d0f89791L, 0xc76c51a30654be30L,
            0xd192e819d6ef5218L, 0xd69906245565a910L, 0xf40e35855771202aL, 0x106aa07032bbd1b8L,
            0x19a4c116b8d2d0c8L, 0x1e376c085141ab53L, 0x2748774cdf8eeb99L, 0x34b0bcb5e19b48a8L,
            0x391c0cb3c5c95a63L, 0x4ed8aa4ae3418acbL, 0x5b9cca4f7763e373L, 0x682e6ff3d6b2b8a3L,
            0x748f82ee5defb2fcL, 0x78a5636f43172f60L, 0x84c87814a1f0ab72L, 0x8cc702081a6439ecL,
            0x90befffa23631e28L, 0xa4506cebde82bde9L, 0xbef9a3f7b2c67915L, 0xc67178f2e372532bL,
            0xca273eceea26619cL, 0xd186b8c721c0c207L, 0xeada7dd6cde0eb1eL, 0xf57d4f7fee6ed178L,
            0x06f067aa72176fbaL, 0x0a637dc5a2c898a6L, 0x113f9804bef90daeL, 0x1b710b35131c471bL,
            0x28db77f523047d84L, 0x32caab7b40c72493L, 0x3c9ebe0a15c9bebcL, 0x431d67c49c100d4cL,
            0x4cc5d4becb3e42b6L, 0x597f299cfc657e2aL, 0x5fcb6fab3ad6faecL, 0x6c44198c4a475817L,
        };
        /** How far S0, S1, s0 and s1 turn or move, three numbers each. */
        private static final int[] NARROW = {2, 13, 22, 6, 11, 25, 7, 18, 3, 17, 19, 10};
        private static final int[] WIDE = {28, 34, 39, 14, 18, 41, 1, 8, 7, 19, 61, 6};

        final long[] state = new long[8];
        final long[] words = new long[80];
        boolean wide = false;
        int width = 32;
        int rounds = 64;
        long mask = 0xffffffffL;
        int filled = 0;
        int count = 0;

        void begin(int kind) {
            wide = kind == 3;
            width = wide ? 64 : 32;
            rounds = wide ? 80 : 64;
            mask = wide ? -1L : 0xffffffffL;
            filled = 0;
            count = 0;
            for (int i = 0; i < 8; i++) {
                state[i] = wide ? STARTS[i] : STARTS[i] >>> 32;
            }
        }

        int blockBytes() {
            return 2 * width;
        }

        /** Bytes go straight into the block's words, each pushing an old one out. */
        void take(int b) {
            int place = wide ? filled >> 3 : filled >> 2;
            words[place] = ((words[place] << 8) | (b & 255)) & mask;
            count++;
            filled++;
            if (filled == blockBytes()) {
                filled = 0;
                stretchWords();
                mixWords();
            }
        }

        void takeRow(Row row) {
            for (int i = 0; i < row.size; i++) {
                take(row.byteAt(i));
            }
        }

        void finish(Row out) {
            int bits = 8 * count;
            int lengthBytes = width / 4;
            int lengthPlace = blockBytes() - lengthBytes;
            take(128);
            for (int i = 0; i < 128 && filled != lengthPlace; i++) {
                take(0);
            }
            for (int i = lengthBytes - 1; i >= 0; i--) {
                take(i < 4 ? bits >>> (8 * i) : 0);
            }
            out.empty();
            for (int i = 0; i < 8; i++) {
                out.putNumber(state[i], width / 8);
            }
        }

        /** Bits above a word of kind 1 are cut off once, where the sum is kept. */
        private void stretchWords() {
            int[] by = wide ? WIDE : NARROW;
            int w = width;
            int a = by[6], b = by[7], c = by[8], d = by[9], e = by[10], f = by[11];
            for (int t = 16; t < rounds; t++) {
                long x = words[t - 15];
                long y = words[t - 2];
                long s0 = ((x >>> a) | (x << (w - a))) ^ ((x >>> b) | (x << (w - b))) ^ (x >>> c);
                long s1 = ((y >>> d) | (y << (w - d))) ^ ((y >>> e) | (y << (w - e))) ^ (y >>> f);
                words[t] = (s1 + words[t - 7] + s0 + words[t - 16]) & mask;
            }
        }

        private void mixWords() {
            int[] by = wide ? WIDE : NARROW;
            int w = width;
            int half = 64 - w;
            int p = by[0], q = by[1], r = by[2], s = by[3], u = by[4], v = by[5];
            long a = state[0], b = state[1], c = state[2], d = state[3];
            long e = state[4], f = state[5], g = state[6], h = state[7];
            for (int t = 0; t < rounds; t++) {
                long s1 = ((e >>> s) | (e << (w - s))) ^ ((e >>> u) | (e << (w - u))) ^ ((e >>> v) | (e << (w - v)));
                long s0 = ((a >>> p) | (a << (w - p))) ^ ((a >>> q) | (a << (w - q))) ^ ((a >>> r) | (a << (w - r)));
                long x = h + s1 + ((e & f) ^ (~e & g)) + (CUBES[t] >>> half) + words[t];
                long y = s0 + ((a & b) ^ (a & c) ^ (b & c));
                h = g;
                g = f;
                f = e;
                e = (d + x) & mask;
                d = c;
                c = b;
                b = a;
                a = (x + y) & mask;
            }
            state[0] = (state[0] + a) & mask;
            state[1] = (state[1] + b) & mask;
            state[2] = (state[2] + c) & mask;
            state[3] = (state[3] + d) & mask;
            state[4] = (state[4] + e) & mask;
            state[5] = (state[5] + f) & mask;
            state[6] = (state[6] + g) & mask;
            state[7] = (state[7] + h) & mask;
        }
    }

    /** MAC and EXPAND. What is to be hashed under the key goes to the digest between begin and finish. */
    private static final class Keyed {
        final Digest digest = new Digest();
        final Row key = new Row(128);
        final Row inner = new Row(LONGEST_HASH);
        final Row last = new Row(LONGEST_HASH);
        int kind = 1;

        void begin(int kindNow, Row keyNow) {
            kind = kindNow;
            digest.begin(kind);
            if (keyNow.size > digest.blockBytes()) {
                digest.takeRow(keyNow);
                digest.finish(key);
            } else {
                key.become(keyNow);
            }
            beginHalf(54);
        }

        void finish(Row out) {
            digest.finish(inner);
            beginHalf(92);
            digest.takeRow(inner);
            digest.finish(out);
        }

        /** The row out must be neither the key nor the info: it grows while they are still read. */
        void stretch(int kindNow, Row keyNow, Row info, int n, Row out) {
            out.empty();
            last.empty();
            for (int i = 1; i <= 255 && out.size < n; i++) {
                begin(kindNow, keyNow);
                digest.takeRow(last);
                digest.takeRow(info);
                digest.take(i);
                finish(last);
                out.putPart(last, 0, Math.min(last.size, n - out.size));
            }
        }

        private void beginHalf(int pad) {
            digest.begin(kind);
            for (int i = 0; i < digest.blockBytes(); i++) {
                digest.take(key.byteAt(i) ^ pad);
            }
        }
    }

    /** X and P: extraction and expansion under a label and the id of what asks for them. */
    private static final class Labels {
        private static final String VERSION = "HPKE-v1";
        private static final int AGREEMENT = 32;
        private static final int LABEL_ROOM = 64;

        final Keyed keyed = new Keyed();
        final Row id = new Row(10);
        final Row whole = new Row(ROOM + LABEL_ROOM);
        int kind = 1;

        void beginAgreement() {
            kind = 1;
            id.empty();
            id.putText("KEM");
            id.putNumber(AGREEMENT, 2);
        }

        void beginSuite(int kindNow, int cipher) {
            kind = kindNow;
            id.empty();
            id.putText("HPKE");
            id.putNumber(AGREEMENT, 2);
            id.putNumber(kind, 2);
            id.putNumber(cipher == NO_CIPHER ? 65535 : cipher, 2);
        }

        void extract(Row salt, String label, Row message, Row out) {
            whole.empty();
            putLabel(label);
            keyed.begin(kind, salt);
            keyed.digest.takeRow(whole);
            keyed.digest.takeRow(message);
            keyed.finish(out);
        }

        void stretch(Row key, String label, Row info, int n, Row out) {
            whole.empty();
            whole.putNumber(n, 2);
            putLabel(label);
            whole.putRow(info);
            keyed.stretch(kind, key, whole, n, out);
        }

        private void putLabel(String label) {
            whole.putText(VERSION);
            whole.putRow(id);
            whole.putText(label);
        }
    }

    /**
     * AGREE. A number modulo 2^255 - 19 is ten limbs of 26 and 25 bits in turn, with signs; after carrying they are
     * within half of that on either side, so that a sum or difference of two can be multiplied without running over.
     */
    private static final class Curve {
        private static final int LIMBS = 10;

        final long[] point = new long[LIMBS];
        final long[] x2 = new long[LIMBS];
        final long[] z2 = new long[LIMBS];
        final long[] x3 = new long[LIMBS];
        final long[] z3 = new long[LIMBS];
        final long[] a = new long[LIMBS];
        final long[] b = new long[LIMBS];
        final long[] c = new long[LIMBS];
        final long[] d = new long[LIMBS];
        final long[] e = new long[LIMBS];
        final Row result = new Row(KEY_BYTES);

        /** Whether it is other than zeros; only then does it come behind out's bytes. */
        boolean putAgreement(Row key, Row other, Row out) {
            readLimbs(other);
            climb(key);
            if (result.isZero()) {
                return false;
            }
            out.putRow(result);
            return true;
        }

        void putPublic(Row key, Row out) {
            setSmall(point, 9);
            climb(key);
            out.putRow(result);
        }

        private void climb(Row key) {
            setSmall(x2, 1);
            setSmall(z2, 0);
            System.arraycopy(point, 0, x3, 0, LIMBS);
            setSmall(z3, 1);
            for (int t = 254; t >= 0; t--) {
                int bit = (keyByte(key, t >> 3) >> (t & 7)) & 1;
                if (bit == 1) {
                    step(x3, z3, x2, z2);
                } else {
                    step(x2, z2, x3, z3);
                }
            }
            invert(z2);
            times(x2, x2, z2);
            writeLimbs(x2);
        }

        private static int keyByte(Row key, int i) {
            int b = key.byteAt(i);
            if (i == 0) {
                return b & 248;
            }
            return i == 31 ? (b & 127) | 64 : b;
        }

        /** The rows' places tell which pair is x2, z2: to change places the pairs are named the other way round. */
        private void step(long[] xTwo, long[] zTwo, long[] xThree, long[] zThree) {
            plus(a, xTwo, zTwo);
            minus(b, xTwo, zTwo);
            plus(c, xThree, zThree);
            minus(d, xThree, zThree);
            times(d, d, a);
            times(c, c, b);
            times(a, a, a);
            times(b, b, b);
            minus(e, a, b);
            plus(xThree, d, c);
            times(xThree, xThree, xThree);
            minus(zThree, d, c);
            times(zThree, zThree, zThree);
            times(zThree, zThree, point);
            times(xTwo, a, b);
            for (int i = 0; i < LIMBS; i++) {
                zTwo[i] = 121665 * e[i];
            }
            carry(zTwo);
            plus(zTwo, zTwo, a);
            times(zTwo, zTwo, e);
        }

        /** To the power 2^255 - 21; behind each line stands the power that its row then holds. */
        private void invert(long[] z) {
            raise(b, z, 3, z);      // 9
            raise(a, z, 1, b);      // 11
            raise(b, a, 1, b);      // 2^5 - 1
            raise(c, b, 5, b);      // 2^10 - 1
            raise(d, c, 10, c);     // 2^20 - 1
            raise(d, d, 20, d);     // 2^40 - 1
            raise(c, d, 10, c);     // 2^50 - 1
            raise(d, c, 50, c);     // 2^100 - 1
            raise(d, d, 100, d);    // 2^200 - 1
            raise(c, d, 50, c);     // 2^250 - 1
            raise(z, c, 5, a);      // 2^255 - 21
        }

        /** from squared n times, times by. */
        private void raise(long[] to, long[] from, int n, long[] by) {
            System.arraycopy(from, 0, e, 0, LIMBS);
            for (int i = 0; i < n; i++) {
                times(e, e, e);
            }
            times(to, e, by);
        }

        private static void setSmall(long[] to, int value) {
            for (int i = 0; i < LIMBS; i++) {
                to[i] = 0;
            }
            to[0] = value;
        }

        private static void plus(long[] to, long[] f, long[] g) {
            for (int i = 0; i < LIMBS; i++) {
                to[i] = f[i] + g[i];
            }
        }

        private static void minus(long[] to, long[] f, long[] g) {
            for (int i = 0; i < LIMBS; i++) {
                to[i] = f[i] - g[i];
            }
        }

        /**
         * What goes beyond the tenth limb comes back 19 fold (n), and two odd limbs, each half a bit short, meet
         * at a place that counts double (d).
         */
        private static void times(long[] to, long[] f, long[] g) {
            long f0 = f[0], f1 = f[1], f2 = f[2], f3 = f[3], f4 = f[4];
            long f5 = f[5], f6 = f[6], f7 = f[7], f8 = f[8], f9 = f[9];
            long g0 = g[0], g1 = g[1], g2 = g[2], g3 = g[3], g4 = g[4];
            long g5 = g[5], g6 = g[6], g7 = g[7], g8 = g[8], g9 = g[9];
            long n1 = 19 * g1, n2 = 19 * g2, n3 = 19 * g3, n4 = 19 * g4, n5 = 19 * g5;
            long n6 = 19 * g6, n7 = 19 * g7, n8 = 19 * g8, n9 = 19 * g9;
            long d1 = 2 * f1, d3 = 2 * f3, d5 = 2 * f5, d7 = 2 * f7, d9 = 2 * f9;
            to[0] = f0 * g0 + d1 * n9 + f2 * n8 + d3 * n7 + f4 * n6
                    + d5 * n5 + f6 * n4 + d7 * n3 + f8 * n2 + d9 * n1;
            to[1] = f0 * g1 + f1 * g0 + f2 * n9 + f3 * n8 + f4 * n7
                    + f5 * n6 + f6 * n5 + f7 * n4 + f8 * n3 + f9 * n2;
            to[2] = f0 * g2 + d1 * g1 + f2 * g0 + d3 * n9 + f4 * n8
                    + d5 * n7 + f6 * n6 + d7 * n5 + f8 * n4 + d9 * n3;
            to[3] = f0 * g3 + f1 * g2 + f2 * g1 + f3 * g0 + f4 * n9
                    + f5 * n8 + f6 * n7 + f7 * n6 + f8 * n5 + f9 * n4;
            to[4] = f0 * g4 + d1 * g3 + f2 * g2 + d3 * g1 + f4 * g0
                    + d5 * n9 + f6 * n8 + d7 * n7 + f8 * n6 + d9 * n5;
            to[5] = f0 * g5 + f1 * g4 + f2 * g3 + f3 * g2 + f4 * g1
                    + f5 * g0 + f6 * n9 + f7 * n8 + f8 * n7 + f9 * n6;
            to[6] = f0 * g6 + d1 * g5 + f2 * g4 + d3 * g3 + f4 * g2
                    + d5 * g1 + f6 * g0 + d7 * n9 + f8 * n8 + d9 * n7;
            to[7] = f0 * g7 + f1 * g6 + f2 * g5 + f3 * g4 + f4 * g3
                    + f5 * g2 + f6 * g1 + f7 * g0 + f8 * n9 + f9 * n8;
            to[8] = f0 * g8 + d1 * g7 + f2 * g6 + d3 * g5 + f4 * g4
                    + d5 * g3 + f6 * g2 + d7 * g1 + f8 * g0 + d9 * n9;
            to[9] = f0 * g9 + f1 * g8 + f2 * g7 + f3 * g6 + f4 * g5
                    + f5 * g4 + f6 * g3 + f7 * g2 + f8 * g1 + f9 * g0;
            carry(to);
        }

        private static void carry(long[] h) {
            long over = 0;
            for (int i = 0; i + 1 < LIMBS; i += 2) {
                long even = h[i] + over;
                over = (even + (1L << 25)) >> 26;
                h[i] = even - (over << 26);
                long odd = h[i + 1] + over;
                over = (odd + (1L << 24)) >> 25;
                h[i + 1] = odd - (over << 25);
            }
            long first = h[0] + 19 * over;
            over = (first + (1L << 25)) >> 26;
            h[0] = first - (over << 26);
            h[1] += over;
        }

        private void readLimbs(Row from) {
            long kept = 0;
            int bits = 0;
            int next = 0;
            for (int i = 0; i < LIMBS; i++) {
                int want = 26 - (i & 1);
                while (bits < want) {
                    kept |= (long) from.byteAt(next) << bits;
                    next++;
                    bits += 8;
                }
                point[i] = kept & ((1L << want) - 1);
                kept >>>= want;
                bits -= want;
            }
            carry(point);
        }

        /** After carrying, h is within some 2^254 of 0: the least number is h itself or, below 0, h and 2^255 - 19. */
        private void writeLimbs(long[] h) {
            long over = 0;
            for (int i = 0; i < LIMBS; i++) {
                over = (h[i] + over) >> (26 - (i & 1));
            }
            over = over < 0 ? -19 : 0;
            long kept = 0;
            int bits = 0;
            result.empty();
            for (int i = 0; i < LIMBS; i++) {
                int have = 26 - (i & 1);
                long limb = h[i] + over;
                over = limb >> have;
                kept |= (limb - (over << have)) << bits;
                bits += have;
                while (bits >= 8) {
                    result.put((int) kept);
                    kept >>>= 8;
                    bits -= 8;
                }
            }
            result.put((int) kept);
        }
    }

    /** LOCK and UNLOCK over what each cipher brings: a stream of blocks, and a tag that takes 16 bytes at a time. */
    private abstract static class Cipher {
        final int[] stream;
        final int[] part = new int[16];
        final Row tag = new Row(TAG_BYTES);

        Cipher(int span) {
            stream = new int[Math.max(span, 1)];
        }

        abstract void begin(Row key, Row nonce);

        /** Block n, from 0 on, of those that texts are locked by. */
        abstract void fillStream(int n);

        abstract void absorb();

        abstract void absorbLengths(int aad, int text);

        abstract void writeTag();

        final void protect(Row aad, Row text, Row out) {
            out.empty();
            scramble(text, text.size, out);
            makeTag(aad, out, text.size);
            out.putRow(tag);
        }

        final boolean reveal(Row aad, Row locked, Row out) {
            int n = locked.size - TAG_BYTES;
            if (n < 0) {
                return false;
            }
            makeTag(aad, locked, n);
            for (int i = 0; i < TAG_BYTES; i++) {
                if (tag.byteAt(i) != locked.byteAt(n + i)) {
                    return false;
                }
            }
            out.empty();
            scramble(locked, n, out);
            return true;
        }

        private void scramble(Row text, int n, Row out) {
            int block = 0;
            int place = stream.length;
            for (int i = 0; i < n; i++) {
                if (place >= stream.length) {
                    fillStream(block);
                    block++;
                    place = 0;
                }
                out.put(text.byteAt(i) ^ stream[place]);
                place++;
            }
        }

        private void makeTag(Row aad, Row locked, int n) {
            absorbRow(aad, aad.size);
            absorbRow(locked, n);
            absorbLengths(aad.size, n);
            writeTag();
        }

        private void absorbRow(Row row, int n) {
            for (int begin = 0; begin < n; begin += 16) {
                for (int i = 0; i < 16; i++) {
                    part[i] = begin + i < n ? row.byteAt(begin + i) : 0;
                }
                absorb();
            }
        }
    }

    /** Ciphers 1 and 2; which one it is the key's length tells. */
    private static final class BlockCipher extends Cipher {
        final int[] sub = new int[256];
        final int[] words = new int[60];
        final int[] moved = new int[16];
        final Row nonce = new Row(NONCE_BYTES);
        int rounds = 10;
        long hHigh = 0;
        long hLow = 0;
        long yHigh = 0;
        long yLow = 0;

        BlockCipher() {
            super(16);
            fillSub();
        }

        void begin(Row key, Row nonceNow) {
            stretchKey(key);
            nonce.become(nonceNow);
            for (int i = 0; i < 16; i++) {
                stream[i] = 0;
            }
            encipher();
            hHigh = longOf(stream, 0);
            hLow = longOf(stream, 8);
            yHigh = 0;
            yLow = 0;
        }

        void fillStream(int n) {
            fillBlock(n + 2);
        }

        void absorb() {
            multiply(longOf(part, 0), longOf(part, 8));
        }

        void absorbLengths(int aad, int text) {
            multiply(8L * aad, 8L * text);
        }

        void writeTag() {
            fillBlock(1);
            tag.empty();
            tag.putNumber(longOf(stream, 0) ^ yHigh, 8);
            tag.putNumber(longOf(stream, 8) ^ yLow, 8);
        }

        private static long longOf(int[] from, int begin) {
            long v = 0;
            for (int i = begin; i < begin + 8 && i < from.length; i++) {
                v = (v << 8) | from[i];
            }
            return v;
        }

        private static int twice(int b) {
            return b < 128 ? b << 1 : (b << 1) ^ 0x11b;
        }

        /** The powers of 3 are all bytes but 0, and the inverse of power i is power 255 - i. */
        private void fillSub() {
            int[] powers = new int[256];
            powers[0] = 1;
            for (int i = 1; i < 256; i++) {
                powers[i] = powers[i - 1] ^ twice(powers[i - 1]);
            }
            sub[0] = 99;
            for (int i = 0; i < 255; i++) {
                int inverse = powers[255 - i];
                int double8 = inverse | (inverse << 8);
                int turned = inverse ^ (double8 >> 7) ^ (double8 >> 6) ^ (double8 >> 5) ^ (double8 >> 4);
                sub[powers[i] & 255] = (turned & 255) ^ 99;
            }
        }

        private void stretchKey(Row key) {
            int n = key.size == 32 ? 8 : 4;
            rounds = n + 6;
            for (int i = 0; i < n; i++) {
                words[i] = (key.byteAt(4 * i) << 24) | (key.byteAt(4 * i + 1) << 16)
                        | (key.byteAt(4 * i + 2) << 8) | key.byteAt(4 * i + 3);
            }
            int power = 1;
            for (int i = n; i < 4 * rounds + 4; i++) {
                int word = words[i - 1];
                if ((i & (n - 1)) == 0) {
                    word = subWord((word << 8) | (word >>> 24)) ^ (power << 24);
                    power = twice(power);
                } else if (n == 8 && (i & 7) == 4) {
                    word = subWord(word);
                }
                words[i] = words[i - n] ^ word;
            }
        }

        private int subWord(int w) {
            return (sub[w >>> 24] << 24) | (sub[(w >> 16) & 255] << 16) | (sub[(w >> 8) & 255] << 8) | sub[w & 255];
        }

        private void fillBlock(int number) {
            for (int i = 0; i < 12; i++) {
                stream[i] = nonce.byteAt(i);
            }
            for (int i = 0; i < 4; i++) {
                stream[12 + i] = (number >>> (24 - 8 * i)) & 255;
            }
            encipher();
        }

        /** CIPHER of the 16 bytes in stream, in their place. */
        private void encipher() {
            mixKey(0);
            for (int round = 1; round <= rounds; round++) {
                for (int i = 0; i < 16; i++) {
                    moved[i] = sub[stream[(i + 4 * (i & 3)) & 15] & 255];
                }
                if (round < rounds) {
                    mixColumns();
                } else {
                    System.arraycopy(moved, 0, stream, 0, 16);
                }
                mixKey(round);
            }
        }

        private void mixKey(int round) {
            for (int i = 0; i < 16; i++) {
                stream[i] ^= (words[4 * round + (i >> 2)] >>> (24 - 8 * (i & 3))) & 255;
            }
        }

        /** 2 a ^ 3 b ^ c ^ d is a ^ (a ^ b ^ c ^ d) ^ 2 (a ^ b), and so on round the column. */
        private void mixColumns() {
            for (int i = 0; i < 16; i += 4) {
                int a = moved[i], b = moved[i + 1], c = moved[i + 2], d = moved[i + 3];
                int all = a ^ b ^ c ^ d;
                stream[i] = a ^ all ^ twice(a ^ b);
                stream[i + 1] = b ^ all ^ twice(b ^ c);
                stream[i + 2] = c ^ all ^ twice(c ^ d);
                stream[i + 3] = d ^ all ^ twice(d ^ a);
            }
        }

        /** y = (y ^ them) times h: the highest bit is that of x^0, so times x is a move to the right. */
        private void multiply(long high, long low) {
            long yh = yHigh ^ high;
            long yl = yLow ^ low;
            long vh = hHigh;
            long vl = hLow;
            long zh = 0;
            long zl = 0;
            for (int i = 0; i < 128; i++) {
                if (yh < 0) {
                    zh ^= vh;
                    zl ^= vl;
                }
                yh = (yh << 1) | (yl >>> 63);
                yl <<= 1;
                long out = vl & 1;
                vl = (vl >>> 1) | (vh << 63);
                vh >>>= 1;
                if (out == 1) {
                    vh ^= 0xe100000000000000L;
                }
            }
            yHigh = zh;
            yLow = zl;
        }
    }

    /** Cipher 3. Numbers modulo 2^130 - 5 are five limbs of 26 bits. */
    private static final class StreamCipher extends Cipher {
        private static final int LIMBS = 5;
        private static final long LIMB = (1L << 26) - 1;

        final int[] words = new int[16];
        final int[] mixed = new int[16];
        final int[] last = new int[16];
        final long[] r = new long[LIMBS];
        final long[] v = new long[LIMBS];
        final long[] next = new long[LIMBS];

        StreamCipher() {
            super(64);
        }

        void begin(Row key, Row nonce) {
            words[0] = 0x61707865;
            words[1] = 0x3320646e;
            words[2] = 0x79622d32;
            words[3] = 0x6b206574;
            for (int i = 0; i < 8; i++) {
                words[4 + i] = wordOf(key, 4 * i);
            }
            for (int i = 0; i < 3; i++) {
                words[13 + i] = wordOf(nonce, 4 * i);
            }
            fillBlock(0);
            System.arraycopy(stream, 16, last, 0, 16);
            split(longOf(stream, 0) & 0x0ffffffc0fffffffL, longOf(stream, 8) & 0x0ffffffc0ffffffcL, r);
            for (int i = 0; i < LIMBS; i++) {
                v[i] = 0;
            }
        }

        void fillStream(int n) {
            fillBlock(n + 1);
        }

        void absorb() {
            multiply(longOf(part, 0), longOf(part, 8));
        }

        void absorbLengths(int aad, int text) {
            multiply(aad, text);
        }

        void writeTag() {
            carry(v);
            reduce();
            long low = v[0] | (v[1] << 26) | (v[2] << 52);
            long high = (v[2] >>> 12) | (v[3] << 14) | (v[4] << 40);
            tag.empty();
            int sum = 0;
            for (int i = 0; i < 16; i++) {
                long half = i < 8 ? low : high;
                sum += (int) ((half >>> (8 * (i & 7))) & 255) + last[i];
                tag.put(sum);
                sum >>>= 8;
            }
        }

        private static int wordOf(Row from, int begin) {
            return from.byteAt(begin) | (from.byteAt(begin + 1) << 8)
                    | (from.byteAt(begin + 2) << 16) | (from.byteAt(begin + 3) << 24);
        }

        private static long longOf(int[] from, int begin) {
            long number = 0;
            for (int i = Math.min(begin + 7, from.length - 1); i >= begin; i--) {
                number = (number << 8) | from[i];
            }
            return number;
        }

        private void fillBlock(int number) {
            words[12] = number;
            System.arraycopy(words, 0, mixed, 0, 16);
            for (int i = 0; i < 10; i++) {
                for (int j = 0; j < 4; j++) {
                    quarter(j, 4 + j, 8 + j, 12 + j);
                }
                for (int j = 0; j < 4; j++) {
                    quarter(j, 4 + ((j + 1) & 3), 8 + ((j + 2) & 3), 12 + ((j + 3) & 3));
                }
            }
            for (int i = 0; i < 16; i++) {
                int word = mixed[i] + words[i];
                for (int j = 0; j < 4; j++) {
                    stream[4 * i + j] = (word >>> (8 * j)) & 255;
                }
            }
        }

        private void quarter(int i, int j, int k, int l) {
            int a = mixed[i], b = mixed[j], c = mixed[k], d = mixed[l];
            a += b;
            d ^= a;
            d = (d << 16) | (d >>> 16);
            c += d;
            b ^= c;
            b = (b << 12) | (b >>> 20);
            a += b;
            d ^= a;
            d = (d << 8) | (d >>> 24);
            c += d;
            b ^= c;
            b = (b << 7) | (b >>> 25);
            mixed[i] = a;
            mixed[j] = b;
            mixed[k] = c;
            mixed[l] = d;
        }

        private static void split(long low, long high, long[] to) {
            to[0] = low & LIMB;
            to[1] = (low >>> 26) & LIMB;
            to[2] = ((low >>> 52) | (high << 12)) & LIMB;
            to[3] = (high >>> 14) & LIMB;
            to[4] = high >>> 40;
        }

        /** v = (v + 2^128 + them) r. */
        private void multiply(long low, long high) {
            split(low, high, next);
            for (int i = 0; i < LIMBS; i++) {
                v[i] += next[i];
            }
            v[4] += 1L << 24;
            for (int i = 0; i < LIMBS; i++) {
                long sum = 0;
                for (int j = 0; j < LIMBS; j++) {
                    sum += j <= i ? v[j] * r[i - j] : v[j] * 5 * r[LIMBS + i - j];
                }
                next[i] = sum;
            }
            carry(next);
            System.arraycopy(next, 0, v, 0, LIMBS);
        }

        private static void carry(long[] h) {
            long over = 0;
            for (int i = 0; i < LIMBS; i++) {
                long limb = h[i] + over;
                over = limb >>> 26;
                h[i] = limb & LIMB;
            }
            long first = h[0] + 5 * over;
            h[0] = first & LIMB;
            h[1] += first >>> 26;
        }

        /** v is below 2^130 here: 2^130 - 5 is taken off if adding 5 reaches 2^130. */
        private void reduce() {
            long over = 5;
            for (int i = 0; i < LIMBS; i++) {
                long limb = v[i] + over;
                over = limb >>> 26;
                next[i] = limb & LIMB;
            }
            if (over > 0) {
                System.arraycopy(next, 0, v, 0, LIMBS);
            }
        }
    }

    /** What a sender or a receiver has; role 0 is none yet. */
    private static final class Context {
        final Row key = new Row(KEY_BYTES);
        final Row base = new Row(NONCE_BYTES);
        final Row exporter = new Row(LONGEST_HASH);
        int role = 0;
        int mode = 0;
        int kind = 0;
        int cipher = 0;
        int high = 0;
        int middle = 0;
        int low = 0;

        void begin(int roleNow, int modeNow, int kindNow, int cipherNow) {
            role = roleNow;
            mode = modeNow;
            kind = kindNow;
            cipher = cipherNow;
            place(0, 0, 0);
        }

        void place(int highNow, int middleNow, int lowNow) {
            high = highNow;
            middle = middleNow;
            low = lowNow;
        }

        boolean isAtEnd() {
            return high == -1 && middle == -1 && low == -1;
        }

        void step() {
            low++;
            if (low == 0) {
                middle++;
                if (middle == 0) {
                    high++;
                }
            }
        }

        void writeNonce(Row out) {
            out.empty();
            for (int i = 0; i < NONCE_BYTES; i++) {
                int word = i < 4 ? high : i < 8 ? middle : low;
                out.put(base.byteAt(i) ^ (word >>> (24 - 8 * (i & 3))));
            }
        }
    }
}
