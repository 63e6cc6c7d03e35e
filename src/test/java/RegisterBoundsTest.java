/** Promises 1 to 8 at their bounds: one method a sentence, which stands above it. */
public final class RegisterBoundsTest {
    private static final Checks checks = new Checks();
    private static final Refusals refusals = new Refusals(checks, Desk::contexts);

    public static void main(String[] args) {
        newRegisters();
        newContexts();
        newUses();
        addTakesOneToEight();
        addTakesTheLowestBytes();
        addFills();
        clear();
        copyParts();
        copyMissingParts();
        join();
        joinItself();
        turn();
        size();
        at();
        outermostRegisters();
        lastCall();
        checks.end("RegisterBoundsTest");
    }

    // ---- 1: "All registers without bytes, no contexts."

    private static void newRegisters() {
        for (int r = 0; r <= 15; r++) {
            KeySealer x = new KeySealer();
            checks.due("new size " + r, x.size(r), 0);
            checks.due("new at " + r, x.at(r, 0), KeySealer.NONE);
            checks.due("new turn " + r, x.turn(r, 0, 0), KeySealer.BAD);
            checks.due("new clear " + r, x.clear(r), 0);
        }
    }

    private static void newContexts() {
        for (int c = 0; c <= 3; c++) {
            KeySealer x = new KeySealer();
            for (int what = 0; what <= 6; what++) {
                checks.due("new told " + c + " " + what, x.told(c, what), 0);
            }
            for (int what = 0; what <= 2; what++) {
                checks.due("new secret " + c + " " + what, x.secret(c, what, 1), KeySealer.BAD);
            }
            checks.due("new seal " + c, x.seal(c, 1, 2, 3), KeySealer.BAD);
            checks.due("new unseal " + c, x.unseal(c, 1, 2, 3), KeySealer.BAD);
            checks.due("new export " + c, x.export(c, 1, 2, 3), KeySealer.BAD);
            checks.due("new sequence " + c, x.sequence(c, 1, 2, 3), KeySealer.BAD);
            checks.due("sequence of none stays", x.told(c, 4) | x.told(c, 5) | x.told(c, 6), 0);
        }
    }

    /** 17: "NONE, as at first". */
    private static void newUses() {
        int[] senders = {32, KeySealer.SHARED, KeySealer.BAD, KeySealer.BAD};
        int[] receivers = {0, KeySealer.SHARED, KeySealer.BAD, KeySealer.BAD};
        for (int mode = 0; mode <= 3; mode++) {
            int one = mode;
            checks.due("new sender of mode " + mode, Desk.registers().call(x -> x.sender(0, one, 1, 1, 15, 1, 3)), senders[mode]);
            checks.due("new receiver of mode " + mode, Desk.registers().call(x -> x.receiver(0, one, 1, 1, 3, 1)), receivers[mode]);
        }
    }

    // ---- 2: "The lowest n (1 .. 8) bytes of w, the highest of these first, .. BAD: register, n; FULL."

    private static void addTakesOneToEight() {
        for (int n = 1; n <= 8; n++) {
            KeySealer x = new KeySealer();
            checks.due("add n " + n, x.add(4, n, 0), n);
            checks.due("size then", x.size(4), n);
        }
        refusals.bad("add n", new int[] {0, -1, 9, 16, 256, 257, Integer.MIN_VALUE, Integer.MAX_VALUE}, (x, n) -> x.add(Desk.EMPTY, n, 5));
        refusals.bad("add r", Refusals.NO_REGISTERS, (x, r) -> x.add(r, 1, 5));
    }

    private static void addTakesTheLowestBytes() {
        String[] rows = {"0000000000000000", "ffffffffffffffff", "8000000000000000", "7fffffffffffffff", "00000000ffffffff",
            "ffffffff00000000", "0123456789abcdef", "00000000000000ff", "0000000000000100"};
        for (String row : rows) {
            for (int n = 1; n <= 8; n++) {
                Sealer x = new Sealer();
                x.add(0, n, Long.parseUnsignedLong(row, 16));
                checks.due("lowest " + n + " of " + row, x.read(0), row.substring(16 - 2 * n));
            }
        }
    }

    /** "have up to 300 bytes each": n bytes are taken where 300 - n are there, and not where there is one more. */
    private static void addFills() {
        for (int n = 1; n <= 8; n++) {
            int many = n;
            String row = Checks.rising(9, 300 - n);
            Desk fits = new Desk().fill(5, row);
            checks.due("add the last " + n, fits.call(x -> x.add(5, many, -1)), 300);
            checks.due("the register then", fits.read(5), row + Checks.same(255, n));
            Desk over = new Desk().fill(5, row + "77");
            checks.due("add one beyond " + n, over.call(x -> x.add(5, many, -1)), KeySealer.FULL);
            checks.due("the register as before", over.read(5), row + "77");
            refusals.due("add to a full one " + n, KeySealer.FULL, x -> x.add(Desk.FULL, many, -1));
        }
    }

    // ---- 3: "A register is without bytes: how many it had. BAD."

    private static void clear() {
        for (int n : new int[] {0, 1, 299, 300}) {
            Desk desk = new Desk().fill(5, Checks.rising(1, n)).fill(6, "0102");
            checks.due("clear " + n, desk.call(x -> x.clear(5)), n);
            checks.due("size then", desk.ask(x -> x.size(5)), 0);
            checks.due("at then", desk.ask(x -> x.at(5, 0)), KeySealer.NONE);
            checks.due("clear once more", desk.call(x -> x.clear(5)), 0);
            checks.due("the next one stays", desk.read(6), "0102");
            checks.due("add then", desk.call(x -> x.add(5, 1, 9)), 1);
            checks.due("nothing of before comes back", desk.read(5), "09");
        }
        refusals.bad("clear", Refusals.NO_REGISTERS, (x, r) -> x.clear(r));
    }

    // ---- 4: "A register becomes n bytes of another one from a place on: n. BAD: registers, or these are not there."

    private static void copyParts() {
        String full = Checks.rising(3, 300);
        int[][] parts = {{0, 0}, {0, 1}, {0, 299}, {0, 300}, {1, 0}, {1, 299}, {150, 150}, {298, 2}, {299, 0}, {299, 1}, {300, 0}};
        for (int[] part : parts) {
            for (int to : new int[] {Desk.EMPTY, Desk.FULL, Desk.INFO}) {
                Desk desk = Desk.registers();
                checks.due("copy of " + part[0] + " " + part[1], desk.call(x -> x.copy(to, Desk.FULL, part[0], part[1])), part[1]);
                checks.due("copied", desk.read(to), full.substring(2 * part[0], 2 * (part[0] + part[1])));
            }
        }
        Desk desk = Desk.registers();
        checks.due("copy of an empty one", desk.call(x -> x.copy(Desk.FULL, Desk.EMPTY, 0, 0)), 0);
        checks.due("copied to a full one", desk.read(Desk.FULL), "");
    }

    private static void copyMissingParts() {
        int max = Integer.MAX_VALUE;
        int min = Integer.MIN_VALUE;
        int[][] ofFull = {{0, 301}, {1, 300}, {299, 2}, {300, 1}, {301, 0}, {-1, 0}, {-1, 1}, {-1, 301}, {0, -1}, {300, -1}, {301, -1},
            {1, max}, {max, 1}, {max, max}, {max, 0}, {0, max}, {min, 0}, {0, min}, {min, min}, {min, max}, {max, min}, {300, max - 299}};
        for (int[] part : ofFull) {
            refusals.bad("copy of " + part[0] + " " + part[1], x -> x.copy(Desk.INFO, Desk.FULL, part[0], part[1]));
        }
        int[][] ofThree = {{0, 4}, {2, 2}, {3, 1}, {4, 0}};
        for (int[] part : ofThree) {
            refusals.bad("copy of three " + part[0] + " " + part[1], x -> x.copy(Desk.EMPTY, Desk.INFO, part[0], part[1]));
        }
        refusals.bad("copy one byte of none", x -> x.copy(Desk.INFO, Desk.EMPTY, 0, 1));
        refusals.bad("copy behind none", x -> x.copy(Desk.INFO, Desk.EMPTY, 1, 0));
        refusals.bad("copy to", Refusals.NO_REGISTERS, (x, r) -> x.copy(r, Desk.INFO, 0, 0));
        refusals.bad("copy from", Refusals.NO_REGISTERS, (x, r) -> x.copy(Desk.INFO, r, 0, 0));
    }

    // ---- 5: "A register's bytes come behind another one's: how many it has. BAD; FULL."

    private static void join() {
        int[][] sizes = {{0, 0}, {0, 1}, {1, 0}, {0, 300}, {300, 0}, {299, 1}, {1, 299}, {150, 150}, {299, 2}, {2, 299}, {300, 1}, {1, 300},
            {151, 150}, {300, 300}};
        for (int[] size : sizes) {
            String to = Checks.rising(7, size[0]);
            String from = Checks.rising(99, size[1]);
            boolean fits = size[0] + size[1] <= 300;
            Desk desk = new Desk().fill(5, to).fill(6, from);
            checks.due("join " + size[0] + " " + size[1], desk.call(x -> x.join(5, 6)), fits ? size[0] + size[1] : KeySealer.FULL);
            checks.due("joined", desk.read(5), fits ? to + from : to);
            checks.due("what was joined stays", desk.read(6), from);
        }
        refusals.bad("join to", Refusals.NO_REGISTERS, (x, r) -> x.join(r, Desk.INFO));
        refusals.bad("join from", Refusals.NO_REGISTERS, (x, r) -> x.join(Desk.INFO, r));
        refusals.due("join to a full one", KeySealer.FULL, x -> x.join(Desk.FULL, Desk.NAME));
    }

    private static void joinItself() {
        for (int n : new int[] {0, 1, 149, 150, 151, 299, 300}) {
            String row = Checks.rising(7, n);
            Desk desk = new Desk().fill(5, row);
            checks.due("join itself " + n, desk.call(x -> x.join(5, 5)), n <= 150 ? 2 * n : KeySealer.FULL);
            checks.due("joined itself", desk.read(5), n <= 150 ? row + row : row);
        }
    }

    // ---- 6: "One bit (0 .. 7, 0 the lowest) of byte i of a register is turned: the byte. BAD: there is none such."

    private static void turn() {
        int[] ends = {0, 1, 298, 299};
        for (int i : ends) {
            for (int bit = 0; bit <= 7; bit++) {
                for (int value : new int[] {0, 127, 128, 255}) {
                    int one = bit;
                    Desk desk = new Desk().fill(5, Checks.same(value, 300));
                    int want = value ^ (1 << bit);
                    checks.due("turn " + i + " " + bit, desk.call(x -> x.turn(5, i, one)), want);
                    checks.due("turned", desk.read(5), Checks.same(value, i) + Checks.same(want, 1) + Checks.same(value, 299 - i));
                }
            }
        }
        int[] places = {-1, 300, 301, Integer.MIN_VALUE, Integer.MAX_VALUE};
        refusals.bad("turn byte", places, (x, i) -> x.turn(Desk.FULL, i, 0));
        refusals.bad("turn byte of three", new int[] {-1, 3, 4, 299}, (x, i) -> x.turn(Desk.INFO, i, 7));
        refusals.bad("turn byte of none", new int[] {-1, 0, 1}, (x, i) -> x.turn(Desk.EMPTY, i, 0));
        refusals.bad("turn bit", new int[] {-1, 8, 31, 32, 39, -8, Integer.MIN_VALUE, Integer.MAX_VALUE}, (x, bit) -> x.turn(Desk.FULL, 0, bit));
        refusals.bad("turn in", Refusals.NO_REGISTERS, (x, r) -> x.turn(r, 0, 0));
    }

    // ---- 7: "How many bytes a register has. BAD."

    private static void size() {
        for (int n : new int[] {0, 1, 299, 300}) {
            checks.due("size " + n, new Desk().fill(5, Checks.rising(1, n)).ask(x -> x.size(5)), n);
        }
        refusals.bad("size", Refusals.NO_REGISTERS, (x, r) -> x.size(r));
    }

    // ---- 8: "Byte i of a register; NONE: there is none. BAD: register."

    private static void at() {
        for (int value : new int[] {0, 1, 127, 128, 254, 255}) {
            KeySealer x = new KeySealer();
            x.add(5, 1, value);
            checks.due("at of " + value, x.at(5, 0), value);
        }
        Desk desk = Desk.registers();
        checks.due("at 0", desk.ask(x -> x.at(Desk.FULL, 0)), 3);
        checks.due("at 299", desk.ask(x -> x.at(Desk.FULL, 299)), (3 + 299) & 255);
        checks.due("at 2 of three", desk.ask(x -> x.at(Desk.INFO, 2)), 0xa3);
        int[] places = {-1, 300, 301, Integer.MIN_VALUE, Integer.MAX_VALUE};
        refusals.each("at of full", KeySealer.NONE, places, (x, i) -> x.at(Desk.FULL, i));
        refusals.each("at of three", KeySealer.NONE, new int[] {-1, 3, 4, 299}, (x, i) -> x.at(Desk.INFO, i));
        refusals.each("at of none", KeySealer.NONE, new int[] {-1, 0, 1}, (x, i) -> x.at(Desk.EMPTY, i));
        refusals.bad("at in", Refusals.NO_REGISTERS, (x, r) -> x.at(r, 0));
    }

    // ---- Terms: "REGISTERS 0 .. 15 have up to 300 bytes each."

    private static void outermostRegisters() {
        for (int r = 0; r <= 15; r++) {
            int one = r;
            int next = (r + 1) % 16;
            Desk desk = new Desk().fill(next, "0a");
            checks.due("add to " + r, desk.call(x -> x.add(one, 2, 0x1234)), 2);
            checks.due("turn in " + r, desk.call(x -> x.turn(one, 1, 0)), 0x35);
            checks.due("at of " + r, desk.ask(x -> x.at(one, 1)), 0x35);
            checks.due("join to " + r, desk.call(x -> x.join(one, next)), 3);
            checks.due("join from " + r, desk.call(x -> x.join(next, one)), 4);
            checks.due("copy to " + r, desk.call(x -> x.copy(one, next, 1, 3)), 3);
            checks.due("copied", desk.read(r), "12350a");
            checks.due("copy from " + r, desk.call(x -> x.copy(next, one, 2, 1)), 1);
            checks.due("copied", desk.read(next), "0a");
            desk.fill(r, Checks.rising(r, 300));
            checks.due("size of " + r, desk.ask(x -> x.size(one)), 300);
            checks.due("full " + r, desk.read(r), Checks.rising(r, 300));
            checks.due("the next one stays", desk.read(next), "0a");
            checks.due("add beyond " + r, desk.call(x -> x.add(one, 1, 0)), KeySealer.FULL);
            checks.due("clear " + r, desk.call(x -> x.clear(one)), 300);
        }
    }

    /** "An object is used for at most 512 calls": the last of them answers as the first. */
    private static void lastCall() {
        KeySealer x = new KeySealer();
        for (int i = 1; i <= 511; i++) {
            checks.due("call " + i, i % 2 == 1 ? x.add(5, 8, i) : x.clear(5), 8);
        }
        checks.due("call 512", x.at(5, 7), 511 & 255);
    }
}
