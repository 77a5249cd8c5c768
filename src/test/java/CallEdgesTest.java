/** Promises 1 to 9, 11 and 12: for each sentence that names a boundary, a test of its own. */
public final class CallEdgesTest {
    private static final int LEAST = Integer.MIN_VALUE;
    private static final int MOST = Integer.MAX_VALUE;
    private static final int ADDRESSES = 1 << 24;
    /** What is no address of an octet, whatever the field's size. */
    private static final int[] FAR = {-1, 1024, 1025, MOST, MOST - 1, MOST - 7, LEAST, ADDRESSES, ADDRESSES + 512,
        -ADDRESSES, 512 - ADDRESSES};

    public static void main(String[] args) {
        newIsAllZero();
        newDoesNotHalt();
        pokeOfOneToEight();
        pokeOfOtherCounts();
        pokeAtTheEnds();
        octetInMemory();
        octetNotInMemory();
        setTellsWhatItWas();
        registersFromZeroToFifteen();
        otherRegisters();
        startAtTheLimits();
        startMakesConditionZero();
        startEndsTheHalt();
        startLeavesTheRest();
        startRefused();
        rrAtTheLimits();
        rrRefused();
        rxAtTheLimits();
        rxRefused();
        ssAtTheLimits();
        ssRefused();
        assembledPlaces();
        assembledUnknownCodes();
        packedOfOneToEight();
        packedSigns();
        packedDigits();
        packedRefused();
        packedFaultIsLastAndNotCounted();
        countOfOtherThings();
        theFirstNamedIsThrown();
        halted();
        Check.end();
    }

    /** A machine of which no part is 0: it halts with 255, NEXT 4, MASK 3, CC 2, two done, two faults. */
    private static DecimalMachine filled() {
        DecimalMachine m = new DecimalMachine();
        m.start(0, 3);
        m.set(0, 1);
        m.rr(0, 63, 1, 2);
        Check.thrown(() -> m.run(1));
        Check.thrown(() -> m.run(1));
        m.rr(0, 18, 0, 0);
        m.rr(2, 10, 15, 15);
        m.run(2);
        for (int a : new int[] {8, 512, 520, 528, 536, 544, 1016}) {
            m.poke(a, 8, 0x1112131415161718L);
        }
        for (int r = 0; r < 16; r++) {
            m.set(r, 0x01010101 * (r + 1));
        }
        return m;
    }

    /** "MEMORY: OCTETS 0..1023, at first 0." "All 0" */
    private static void newIsAllZero() {
        for (int from = 0; from < 1024; from += 256) {
            DecimalMachine m = new DecimalMachine();
            for (int a = from; a < from + 256; a++) {
                Check.same("new octet " + a, m.octet(a), 0);
            }
        }
        DecimalMachine m = new DecimalMachine();
        for (int r = 0; r < 16; r++) {
            Check.same("new register " + r, m.register(r), 0);
        }
        for (int what : new int[] {0, 1, 2, 4, 5, 6}) {
            Check.same("new count " + what, m.count(what), 0);
        }
    }

    /** "the machine does not HALT" */
    private static void newDoesNotHalt() {
        DecimalMachine m = new DecimalMachine();
        Check.same("new machine halts with", m.count(3), -1);
        Check.same("a new machine runs, and has FAULT 1", Check.thrown(() -> m.run(1)), "IllegalArgumentException");
        Check.same("FAULT", m.count(6), 1);
    }

    /** "n (1..8) OCTETS from a on become those of w, its lowest n, the highest of these first." */
    private static void pokeOfOneToEight() {
        String octets = "fedcba9876543210";
        for (int n = 1; n <= 8; n++) {
            DecimalMachine m = new DecimalMachine();
            m.poke(501, 8, -1);
            m.poke(509, 8, -1);
            m.poke(505, n, 0xFEDCBA9876543210L);
            String due = "ffffffff" + octets.substring(16 - 2 * n) + "ffffffffffffffffffffffff".substring(2 * n);
            Check.same("poke of " + n, Check.octets(m, 501, 16), due);
            m.poke(505, n, Long.MIN_VALUE);
            String zeros = n == 8 ? "8000000000000000" : "0000000000000000".substring(16 - 2 * n);
            Check.same("poke of the least, " + n, Check.octets(m, 505, n), zeros);
        }
    }

    /** "IllegalArgumentException: n." */
    private static void pokeOfOtherCounts() {
        for (int n : new int[] {0, 9, 16, -1, -8, LEAST, LEAST + 1, MOST}) {
            DecimalMachine m = filled();
            Check.illegal("poke of " + n, m, () -> m.poke(512, n, 0));
        }
    }

    /** "IndexOutOfBoundsException: one is not in MEMORY." */
    private static void pokeAtTheEnds() {
        for (int size = 1; size <= 8; size++) {
            int n = size;
            DecimalMachine m = filled();
            m.poke(1024 - n, n, 0);
            m.poke(0, n, 0);
            String zeros = "0000000000000000".substring(0, 2 * n);
            Check.same("poke up to the end, " + n, Check.octets(m, 1024 - n, n), zeros);
            Check.same("poke from the start, " + n, Check.octets(m, 0, n), zeros);
            for (int i = 1; i <= n; i++) {
                int over = 1024 - n + i;
                DecimalMachine other = filled();
                Check.outside("poke of " + n + " at " + over, other, () -> other.poke(over, n, 0));
                int under = -i;
                Check.outside("poke of " + n + " at " + under, other, () -> other.poke(under, n, 0));
            }
            for (int a : FAR) {
                DecimalMachine other = filled();
                Check.outside("poke of " + n + " at " + a, other, () -> other.poke(a, n, 0));
            }
        }
    }

    /** "OCTET a." */
    private static void octetInMemory() {
        DecimalMachine m = new DecimalMachine();
        m.poke(0, 1, 255);
        m.poke(1023, 1, 128);
        Check.same("octet 0", m.octet(0), 255);
        Check.same("octet 1023", m.octet(1023), 128);
    }

    /** "IndexOutOfBoundsException likewise." */
    private static void octetNotInMemory() {
        for (int a : FAR) {
            DecimalMachine m = filled();
            Check.outside("octet " + a, m, () -> m.octet(a));
        }
    }

    /** "REGISTER r is v: what it was." */
    private static void setTellsWhatItWas() {
        DecimalMachine m = new DecimalMachine();
        int[] values = {LEAST, -1, 0, MOST, 1};
        int before = 0;
        for (int v : values) {
            Check.same("set tells what it was", m.set(7, v), before);
            Check.same("set puts", m.register(7), v);
            before = v;
        }
    }

    /** "REGISTERS 0..15: ints." */
    private static void registersFromZeroToFifteen() {
        DecimalMachine m = new DecimalMachine();
        for (int r = 0; r < 16; r++) {
            m.set(r, LEAST + r);
        }
        for (int r = 0; r < 16; r++) {
            Check.same("register " + r, m.register(r), LEAST + r);
        }
    }

    /** "IllegalArgumentException: r is not 0..15." "IllegalArgumentException likewise." */
    private static void otherRegisters() {
        for (int r : new int[] {-1, 16, 31, 256, LEAST, LEAST + 1, MOST}) {
            DecimalMachine m = filled();
            Check.illegal("set " + r, m, () -> m.set(r, 0));
            Check.illegal("register " + r, m, () -> m.register(r));
        }
    }

    private static void counts(String what, DecimalMachine m, int... due) {
        for (int i = 0; i < due.length; i++) {
            Check.same(what + ": count " + i, m.count(i), due[i]);
        }
    }

    /** "NEXT is a, MASK is m": a of 0..2^24 - 1, m of 0..3. */
    private static void startAtTheLimits() {
        int[] places = {0, 1, 1023, 1024, ADDRESSES - 1};
        for (int a : places) {
            for (int mask = 0; mask <= 3; mask++) {
                DecimalMachine m = new DecimalMachine();
                m.start(a, mask);
                counts("start " + a + " " + mask, m, a, 0, mask, -1, 0, 0, 0);
            }
        }
    }

    /** "CC 0" */
    private static void startMakesConditionZero() {
        for (int condition = 0; condition <= 3; condition++) {
            DecimalMachine m = new Step("CC", 1, condition).machine;
            Check.same("CC before start", m.count(1), condition);
            m.start(8, 2);
            counts("start after CC " + condition, m, 8, 0, 2, -1, 1, 0, 0);
        }
    }

    /** "the machine does not HALT" */
    private static void startEndsTheHalt() {
        DecimalMachine m = filled();
        Check.same("halts", m.count(3), 255);
        m.start(0, 0);
        Check.same("halts no more", m.count(3), -1);
        m.rr(0, 24, 0, 0);
        Check.same("runs again", m.run(1), 1);
    }

    private static void startLeavesTheRest() {
        DecimalMachine m = filled();
        String octets = Check.octets(m, 0, 16) + Check.octets(m, 1016, 8);
        m.start(1024, 1);
        counts("start of a filled machine", m, 1024, 0, 1, -1, 2, 2, 1);
        Check.same("start leaves octets", Check.octets(m, 0, 16) + Check.octets(m, 1016, 8), octets);
        for (int r = 0; r < 16; r++) {
            Check.same("start leaves register " + r, m.register(r), 0x01010101 * (r + 1));
        }
    }

    /** "IllegalArgumentException: a is not 0..2^24 - 1, or m not 0..3." */
    private static void startRefused() {
        int[][] bad = {{-1, 0}, {ADDRESSES, 0}, {LEAST, 0}, {MOST, 0}, {-ADDRESSES, 0}, {0, -1}, {0, 4}, {0, LEAST},
            {0, MOST}, {-1, -1}, {ADDRESSES, 4}};
        for (int[] b : bad) {
            DecimalMachine m = filled();
            Check.illegal("start " + b[0] + " " + b[1], m, () -> m.start(b[0], b[1]));
            Check.same("it halts still", m.count(3), 255);
        }
    }

    /** "RR, two OCTETS: code, R1, R2. ... The address behind." */
    private static void rrAtTheLimits() {
        int[][] right = {{0, 0, 0}, {63, 15, 15}, {0, 15, 0}, {63, 0, 15}, {24, 9, 6}};
        for (int[] b : right) {
            DecimalMachine m = filled();
            Check.same("rr behind", m.rr(520, b[0], b[1], b[2]), 522);
            Check.same("rr", m.octet(520) * 256 + m.octet(521), b[0] * 256 + b[1] * 16 + b[2]);
            Check.same("rr leaves what is before", m.octet(519), 0x18);
            Check.same("rr leaves what is behind", m.octet(522), 0x13);
            counts("rr runs nothing", m, 4, 2, 3, 255, 2, 2, 1);
        }
    }

    /** "IllegalArgumentException: code is not 0..63, or one not 0..15. IndexOutOfBoundsException: not in MEMORY." */
    private static void rrRefused() {
        int[] right = {24, 1, 2};
        int[][] wrong = {{-1, 64, 255, LEAST, MOST}, {-1, 16, LEAST, MOST}, {-1, 16, LEAST, MOST}};
        for (int i = 0; i < right.length; i++) {
            for (int v : wrong[i]) {
                int[] b = right.clone();
                b[i] = v;
                for (int a : new int[] {512, 1023}) {
                    DecimalMachine m = filled();
                    Check.illegal("rr argument " + i + " " + v, m, () -> m.rr(a, b[0], b[1], b[2]));
                }
            }
        }
        for (int a : FAR) {
            DecimalMachine m = filled();
            Check.outside("rr at " + a, m, () -> m.rr(a, 24, 1, 2));
        }
        DecimalMachine m = filled();
        Check.outside("rr at 1023", m, () -> m.rr(1023, 24, 1, 2));
    }

    /** "Four OCTETS: code (64..191), R1, X or R3, B, D (0..4095)." */
    private static void rxAtTheLimits() {
        int[][] right = {{64, 0, 0, 0, 0}, {191, 15, 15, 15, 4095}, {64, 15, 0, 15, 0}, {191, 0, 15, 0, 4095},
            {65, 1, 2, 3, 255}, {65, 1, 2, 3, 256}};
        for (int[] b : right) {
            DecimalMachine m = filled();
            Check.same("rx behind", m.rx(520, b[0], b[1], b[2], b[3], b[4]), 524);
            long due = ((((long) b[0] * 16 + b[1]) * 16 + b[2]) * 16 + b[3]) * 4096 + b[4];
            Check.same("rx", Check.octets(m, 520, 4), String.format("%08x", due));
            Check.same("rx leaves what is before", m.octet(519), 0x18);
            Check.same("rx leaves what is behind", m.octet(524), 0x15);
        }
    }

    /** "IllegalArgumentException, IndexOutOfBoundsException likewise." */
    private static void rxRefused() {
        int[] right = {65, 1, 2, 3, 4};
        int[][] wrong = {{-1, 0, 63, 192, LEAST, MOST}, {-1, 16, LEAST, MOST}, {-1, 16, LEAST, MOST},
            {-1, 16, LEAST, MOST}, {-1, 4096, LEAST, MOST}};
        for (int i = 0; i < right.length; i++) {
            for (int v : wrong[i]) {
                int[] b = right.clone();
                b[i] = v;
                for (int a : new int[] {512, 1021}) {
                    DecimalMachine m = filled();
                    Check.illegal("rx argument " + i + " " + v, m, () -> m.rx(a, b[0], b[1], b[2], b[3], b[4]));
                }
            }
        }
        for (int a : FAR) {
            DecimalMachine m = filled();
            Check.outside("rx at " + a, m, () -> m.rx(a, 65, 1, 2, 3, 4));
        }
        for (int a : new int[] {1021, 1022, 1023, -2, -3, -4}) {
            DecimalMachine m = filled();
            Check.outside("rx at " + a, m, () -> m.rx(a, 65, 1, 2, 3, 4));
        }
    }

    /** "Six OCTETS: code (192..255), l (0..255), B, D, B, D." */
    private static void ssAtTheLimits() {
        int[][] right = {{192, 0, 0, 0, 0, 0}, {255, 255, 15, 4095, 15, 4095}, {192, 255, 0, 4095, 15, 0},
            {255, 0, 15, 0, 0, 4095}, {210, 16, 1, 255, 2, 256}};
        for (int[] b : right) {
            DecimalMachine m = filled();
            Check.same("ss behind", m.ss(520, b[0], b[1], b[2], b[3], b[4], b[5]), 526);
            long due = ((((((long) b[0] * 256 + b[1]) * 16 + b[2]) * 4096 + b[3]) * 16 + b[4]) * 4096) + b[5];
            Check.same("ss", Check.octets(m, 520, 6), String.format("%012x", due));
            Check.same("ss leaves what is before", m.octet(519), 0x18);
            Check.same("ss leaves what is behind", m.octet(526), 0x17);
        }
    }

    /** "IllegalArgumentException, IndexOutOfBoundsException likewise." */
    private static void ssRefused() {
        int[] right = {210, 1, 2, 3, 4, 5};
        int[][] wrong = {{-1, 0, 191, 256, LEAST, MOST}, {-1, 256, LEAST, MOST}, {-1, 16, LEAST, MOST},
            {-1, 4096, LEAST, MOST}, {-1, 16, LEAST, MOST}, {-1, 4096, LEAST, MOST}};
        for (int i = 0; i < right.length; i++) {
            for (int v : wrong[i]) {
                int[] b = right.clone();
                b[i] = v;
                for (int a : new int[] {512, 1019}) {
                    DecimalMachine m = filled();
                    Check.illegal("ss argument " + i + " " + v, m, () -> m.ss(a, b[0], b[1], b[2], b[3], b[4], b[5]));
                }
            }
        }
        for (int a : FAR) {
            DecimalMachine m = filled();
            Check.outside("ss at " + a, m, () -> m.ss(a, 210, 1, 2, 3, 4, 5));
        }
        for (int a : new int[] {1019, 1020, 1021, 1022, 1023, -2, -3, -4, -5, -6}) {
            DecimalMachine m = filled();
            Check.outside("ss at " + a, m, () -> m.ss(a, 210, 1, 2, 3, 4, 5));
        }
    }

    /** The first and the last place of each length, and odd ones: nothing forbids them. */
    private static void assembledPlaces() {
        DecimalMachine m = new DecimalMachine();
        Check.same("ss at 0", m.ss(0, 210, 1, 2, 3, 4, 5), 6);
        Check.same("ss at 1", m.ss(1, 210, 1, 2, 3, 4, 5), 7);
        Check.same("ss at 1018", m.ss(1018, 210, 1, 2, 3, 4, 5), 1024);
        Check.same("ss up to the end", Check.octets(m, 1017, 7), "00d20120034005");
        Check.same("rx at 0", m.rx(0, 65, 1, 2, 3, 4), 4);
        Check.same("rx at 3", m.rx(3, 65, 1, 2, 3, 4), 7);
        Check.same("rx at 1020", m.rx(1020, 65, 1, 2, 3, 4), 1024);
        Check.same("rx up to the end", Check.octets(m, 1019, 5), "0141123004");
        Check.same("rr at 0", m.rr(0, 24, 1, 2), 2);
        Check.same("rr at 5", m.rr(5, 24, 1, 2), 7);
        Check.same("rr at 1022", m.rr(1022, 24, 3, 4), 1024);
        Check.same("rr up to the end", Check.octets(m, 1021, 3), "121834");
    }

    /** A code that no instruction has is put all the same: only run looks at it. */
    private static void assembledUnknownCodes() {
        for (int code = 0; code <= 255; code++) {
            int c = code;
            DecimalMachine m = new DecimalMachine();
            String thrown = Check.thrown(() -> {
                if (c < 64) {
                    m.rr(512, c, 0, 0);
                } else if (c < 192) {
                    m.rx(512, c, 0, 0, 0, 0);
                } else {
                    m.ss(512, c, 0, 0, 0, 0, 0);
                }
            });
            Check.same("code " + code, thrown, "none");
            Check.same("code " + code, m.octet(512), code);
        }
    }

    private static DecimalMachine holding(int a, String octets) {
        DecimalMachine m = new DecimalMachine();
        Check.put(m, a, octets);
        return m;
    }

    /** "The packed field of n (1..8) OCTETS at a, as a number." */
    private static void packedOfOneToEight() {
        long nines = 9;
        for (int n = 1; n <= 8; n++) {
            String digits = "999999999999999".substring(0, 2 * n - 1);
            for (int a : new int[] {0, 511, 1024 - n}) {
                Check.same("all nines, " + n, holding(a, digits + "c").packed(a, n), nines);
                Check.same("all nines minus, " + n, holding(a, digits + "d").packed(a, n), -nines);
            }
            String zeros = "000000000000000".substring(0, 2 * n - 1);
            Check.same("zero, " + n, holding(512, zeros + "c").packed(512, n), 0);
            Check.same("zero with minus, " + n, holding(512, zeros + "d").packed(512, n), 0);
            nines = nines * 100 + 99;
        }
        Check.same("each digit has its place", holding(512, "123456789012345d").packed(512, 8), -123456789012345L);
    }

    /** "the last half the sign: 11, 13 minus, 10, 12, 14, 15 plus ... FAULT 7: ... a sign below 10." */
    private static void packedSigns() {
        int[] due = {28, -28, 28, -28, 28, 28};
        for (int sign = 0; sign < 16; sign++) {
            DecimalMachine m = holding(512, "028" + Integer.toHexString(sign));
            if (sign < 10) {
                Check.illegal("packed, sign " + sign, m, () -> m.packed(512, 2));
            } else {
                Check.same("packed, sign " + sign, m.packed(512, 2), due[sign - 10]);
            }
        }
    }

    /** "FAULT 7: a digit above 9" */
    private static void packedDigits() {
        for (int n = 1; n <= 8; n++) {
            for (int place = 0; place < 2 * n - 1; place++) {
                for (int digit = 9; digit <= 15; digit += digit == 10 ? 5 : 1) {
                    StringBuilder octets = new StringBuilder("000000000000000".substring(0, 2 * n - 1) + "c");
                    octets.setCharAt(place, Character.forDigit(digit, 16));
                    DecimalMachine m = holding(512, octets.toString());
                    int size = n;
                    String due = digit == 9 ? "none" : "IllegalArgumentException";
                    Check.same("packed " + octets, Check.thrown(() -> m.packed(512, size)), due);
                }
            }
        }
    }

    /** "IllegalArgumentException: n ... IndexOutOfBoundsException: not in MEMORY." */
    private static void packedRefused() {
        for (int n : new int[] {0, 9, -1, LEAST, LEAST + 1, MOST}) {
            for (int a : new int[] {512, 1023, -1}) {
                DecimalMachine m = filled();
                m.poke(512, 8, 12);
                m.poke(520, 8, 12);
                Check.illegal("packed of " + n + " at " + a, m, () -> m.packed(a, n));
            }
        }
        for (int n = 1; n <= 8; n++) {
            int size = n;
            for (int i = 1; i <= n; i++) {
                int over = 1024 - n + i;
                int under = -i;
                DecimalMachine m = filled();
                Check.outside("packed of " + n + " at " + over, m, () -> m.packed(over, size));
                Check.outside("packed of " + n + " at " + under, m, () -> m.packed(under, size));
            }
            for (int a : FAR) {
                DecimalMachine m = filled();
                Check.outside("packed of " + n + " at " + a, m, () -> m.packed(a, size));
            }
        }
    }

    /** "(packed: FAULT 7 last); a call that throws changes nothing, but for run with a FAULT." */
    private static void packedFaultIsLastAndNotCounted() {
        DecimalMachine end = holding(1020, "ffffffff");
        Check.outside("packed, a wrong field, not in memory", end, () -> end.packed(1020, 5));
        Check.illegal("packed, a wrong field", end, () -> end.packed(1020, 4));
        counts("FAULT 7 of packed", end, 0, 0, 0, -1, 0, 0, 0);
    }

    /** "IllegalArgumentException for others." */
    private static void countOfOtherThings() {
        for (int what : new int[] {-1, 7, 8, LEAST, LEAST + 1, MOST}) {
            DecimalMachine m = filled();
            Check.illegal("count " + what, m, () -> m.count(what));
        }
        counts("a filled machine", filled(), 4, 2, 3, 255, 2, 2, 1);
    }

    /** "Of several exceptions of a call the one named first is thrown" */
    private static void theFirstNamedIsThrown() {
        DecimalMachine m = filled();
        Check.illegal("poke", m, () -> m.poke(1024, 9, 0));
        DecimalMachine r = filled();
        Check.illegal("rr", r, () -> r.rr(-1, 64, 0, 0));
        Check.illegal("rx", r, () -> r.rx(1024, 65, 0, 0, 0, 4096));
        DecimalMachine s = filled();
        Check.illegal("ss", s, () -> s.ss(LEAST, 210, 256, 0, 0, 0, 0));
        Check.illegal("packed", s, () -> s.packed(1024, 0));
        DecimalMachine run = filled();
        Check.refused("run", run, "IllegalStateException", () -> run.run(0));
    }

    /** A machine that halts refuses run alone. */
    private static void halted() {
        DecimalMachine m = filled();
        m.poke(512, 2, 0x123D);
        Check.same("packed", m.packed(512, 2), -123);
        Check.same("set", m.set(3, 9), 0x04040404);
        Check.same("rr", m.rr(4, 24, 3, 3), 6);
        Check.same("it halts still", m.count(3), 255);
        Check.refused("run", m, "IllegalStateException", () -> m.run(1));
    }
}
