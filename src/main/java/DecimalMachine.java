public final class DecimalMachine {
    // How an instruction ended: the document's numbers of faults, and 0, which it gives to none.
    private static final int DONE = 0;
    private static final int OPERATION = 1;
    private static final int ADDRESSING = 5;
    private static final int SPECIFICATION = 6;
    private static final int DATA = 7;
    private static final int FIXED_OVERFLOW = 8;
    private static final int FIXED_DIVIDE = 9;
    private static final int DECIMAL_OVERFLOW = 10;
    private static final int DECIMAL_DIVIDE = 11;

    private static final int ADDRESSES = 0xFFFFFF;
    private static final long UNSIGNED = 0xFFFFFFFFL;
    private static final int LEAST_INT = 0x80000000;
    private static final int NOT_HALTED = -1;
    private static final int MOST_STEPS = 200;
    private static final int LONGEST_PACKED = 8;

    private static final int FIRST_OF_FOUR_OCTETS = 64;
    private static final int FIRST_WITHOUT_INDEX = 128;
    private static final int FIRST_OF_SIX_OCTETS = 192;
    private static final int BALR = 5;
    private static final int BCTR = 6;
    private static final int BCR = 7;
    private static final int SVC = 10;
    private static final int LPR = 16;
    private static final int LNR = 17;
    private static final int LTR = 18;
    private static final int LCR = 19;
    private static final int NR = 20;
    private static final int CLR = 21;
    private static final int OR = 22;
    private static final int XR = 23;
    private static final int LR = 24;
    private static final int CR = 25;
    private static final int AR = 26;
    private static final int SR = 27;
    private static final int MR = 28;
    private static final int DR = 29;
    private static final int ALR = 30;
    private static final int SLR = 31;
    private static final int STH = 64;
    private static final int LA = 65;
    private static final int STC = 66;
    private static final int IC = 67;
    private static final int BAL = 69;
    private static final int BCT = 70;
    private static final int BC = 71;
    private static final int LH = 72;
    private static final int CH = 73;
    private static final int AH = 74;
    private static final int SH = 75;
    private static final int MH = 76;
    private static final int CVD = 78;
    private static final int CVB = 79;
    private static final int ST = 80;
    private static final int N = 84;
    private static final int SL = 95;
    private static final int BXH = 134;
    private static final int BXLE = 135;
    private static final int SRL = 136;
    private static final int SLL = 137;
    private static final int SRA = 138;
    private static final int SLA = 139;
    private static final int STM = 144;
    private static final int TM = 145;
    private static final int MVI = 146;
    private static final int NI = 148;
    private static final int CLI = 149;
    private static final int OI = 150;
    private static final int XI = 151;
    private static final int LM = 152;
    private static final int MVN = 209;
    private static final int MVC = 210;
    private static final int MVZ = 211;
    private static final int NC = 212;
    private static final int CLC = 213;
    private static final int OC = 214;
    private static final int XC = 215;
    private static final int TR = 220;
    private static final int PACK = 242;
    private static final int UNPK = 243;
    private static final int ZAP = 248;
    private static final int CP = 249;
    private static final int AP = 250;
    private static final int SP = 251;
    private static final int MP = 252;
    private static final int DP = 253;

    private final State state;
    private final Processor processor;

    public DecimalMachine() {
        state = new State();
        processor = new Processor(state);
    }

    public void poke(int a, int n, long w) throws IllegalArgumentException, IndexOutOfBoundsException {
        demand(isWithin(n, 1, 8));
        demandMemory(a, n);
        state.memory.store(a, n, w);
    }

    public int octet(int a) throws IndexOutOfBoundsException {
        demandMemory(a, 1);
        return state.memory.get(a);
    }

    public int set(int r, int v) throws IllegalArgumentException {
        demand(isNibble(r));
        int before = state.value(r);
        state.put(r, v);
        return before;
    }

    public int register(int r) throws IllegalArgumentException {
        demand(isNibble(r));
        return state.value(r);
    }

    public void start(int a, int m) throws IllegalArgumentException {
        demand(isWithin(a, 0, ADDRESSES) && isWithin(m, 0, 3));
        state.next = a;
        state.mask = m;
        state.condition = 0;
        state.halt = NOT_HALTED;
    }

    public int rr(int a, int code, int r, int s) throws IllegalArgumentException, IndexOutOfBoundsException {
        demand(isWithin(code, 0, 63) && isNibble(r) && isNibble(s));
        demandMemory(a, 2);
        state.memory.store(a, 1, code);
        state.memory.store(a + 1, 1, r * 16 + s);
        return a + 2;
    }

    public int rx(int a, int code, int r, int x, int b, int d)
            throws IllegalArgumentException, IndexOutOfBoundsException {
        demand(isWithin(code, 64, 191) && isNibble(r) && isNibble(x) && isPlace(b, d));
        demandMemory(a, 4);
        state.memory.store(a, 1, code);
        state.memory.store(a + 1, 1, r * 16 + x);
        state.memory.store(a + 2, 2, b * 4096 + d);
        return a + 4;
    }

    public int ss(int a, int code, int l, int b, int d, int c, int e)
            throws IllegalArgumentException, IndexOutOfBoundsException {
        demand(isWithin(code, 192, 255) && isWithin(l, 0, 255) && isPlace(b, d) && isPlace(c, e));
        demandMemory(a, 6);
        state.memory.store(a, 1, code);
        state.memory.store(a + 1, 1, l);
        state.memory.store(a + 2, 2, b * 4096 + d);
        state.memory.store(a + 4, 2, c * 4096 + e);
        return a + 6;
    }

    public int run(int n)
            throws IllegalStateException, IllegalArgumentException, IndexOutOfBoundsException, ArithmeticException {
        if (state.halt != NOT_HALTED) {
            throw new IllegalStateException("the machine halts already");
        }
        demand(isWithin(n, 1, MOST_STEPS));
        int steps = 0;
        int fault = DONE;
        while (steps < n && fault == DONE && state.halt == NOT_HALTED) {
            fault = processor.step();
            steps++;
        }
        tell(fault);
        return steps;
    }

    public long packed(int a, int n) throws IllegalArgumentException, IndexOutOfBoundsException {
        demand(isWithin(n, 1, LONGEST_PACKED));
        demandMemory(a, n);
        demand(state.memory.isPacked(a, n));
        return state.memory.decimal(a, n);
    }

    public int count(int what) throws IllegalArgumentException {
        demand(isWithin(what, 0, 6));
        switch (what) {
            case 0:
                return state.next;
            case 1:
                return state.condition;
            case 2:
                return state.mask;
            case 3:
                return state.halt;
            case 4:
                return processor.done;
            case 5:
                return processor.faults;
            default:
                return processor.latestFault;
        }
    }

    private static boolean isWithin(int value, int least, int most) {
        return value >= least && value <= most;
    }

    private static boolean isNibble(int value) {
        return isWithin(value, 0, 15);
    }

    private static boolean isPlace(int base, int distance) {
        return isNibble(base) && isWithin(distance, 0, 4095);
    }

    private static void demand(boolean holds) {
        if (!holds) {
            throw new IllegalArgumentException("an argument or a packed field is not as it must be");
        }
    }

    private void demandMemory(int a, int n) {
        if (!state.memory.holds(a, n)) {
            throw new IndexOutOfBoundsException("an octet is not in memory");
        }
    }

    private static void tell(int fault) {
        switch (fault) {
            case DONE:
                return;
            case ADDRESSING:
                throw new IndexOutOfBoundsException("fault 5");
            case OPERATION:
            case SPECIFICATION:
            case DATA:
                throw new IllegalArgumentException("fault 1, 6 or 7");
            default:
                throw new ArithmeticException("fault 8, 9, 10 or 11");
        }
    }

    /** The octets, and the numbers and packed fields that stand in them. */
    private static final class Memory {
        private static final int SIZE = 1024;
        private static final int LEAST_SIGN = 10;
        private static final int PLUS = 12;
        private static final int MINUS = 13;
        private static final int OTHER_MINUS = 11;

        private final int[] octets = new int[SIZE];

        boolean holds(int a, int n) {
            return a >= 0 && n <= SIZE && a <= SIZE - n;
        }

        /** The fault of a half, word or double at a; a wrong place counts before a missing one. */
        int faultOf(int a, int size) {
            if ((a & (size - 1)) != 0) {
                return SPECIFICATION;
            }
            return holds(a, size) ? DONE : ADDRESSING;
        }

        int get(int a) {
            return a >= 0 && a < SIZE ? octets[a] : 0;
        }

        void put(int a, int octet) {
            if (a >= 0 && a < SIZE) {
                octets[a] = octet & 255;
            }
        }

        int half(int a) {
            return (short) (get(a) << 8 | get(a + 1));
        }

        int word(int a) {
            return get(a) << 24 | get(a + 1) << 16 | get(a + 2) << 8 | get(a + 3);
        }

        void store(int a, int n, long number) {
            long rest = number;
            for (int i = n - 1; i >= 0; i--) {
                put(a + i, (int) (rest & 255));
                rest = rest >> 8;
            }
        }

        boolean isPacked(int a, int n) {
            int last = get(a + n - 1);
            boolean right = last >> 4 <= 9 && (last & 15) >= LEAST_SIGN;
            for (int i = 0; i < n - 1; i++) {
                int octet = get(a + i);
                right = right && octet >> 4 <= 9 && (octet & 15) <= 9;
            }
            return right;
        }

        boolean isMinus(int a, int n) {
            int sign = get(a + n - 1) & 15;
            return sign == MINUS || sign == OTHER_MINUS;
        }

        long decimal(int a, int n) {
            long digits = 0;
            for (int i = 0; i < n - 1; i++) {
                int octet = get(a + i);
                digits = digits * 100 + (octet >> 4) * 10 + (octet & 15);
            }
            digits = digits * 10 + (get(a + n - 1) >> 4);
            return isMinus(a, n) ? -digits : digits;
        }

        /** The sign is told apart from the digits, since a zero may be minus. */
        void putDecimal(int a, int n, long digits, boolean minus) {
            long rest = digits;
            int low = minus ? MINUS : PLUS;
            for (int i = n - 1; i >= 0; i--) {
                put(a + i, (int) (rest % 10) * 16 + low);
                low = (int) (rest / 10 % 10);
                rest = rest / 100;
            }
        }
    }

    /** What instructions work on. */
    private static final class State {
        private static final int FIXED = 1;
        private static final int DECIMAL = 2;

        private final Memory memory = new Memory();
        private final int[] registers = new int[16];
        private int next = 0;
        private int condition = 0;
        private int mask = 0;
        private int halt = NOT_HALTED;

        int value(int r) {
            return registers[r & 15];
        }

        void put(int r, int v) {
            registers[r & 15] = v;
        }

        void conditionBySign(long v) {
            condition = v == 0 ? 0 : v < 0 ? 1 : 2;
        }

        void conditionByBits(int bits) {
            condition = bits == 0 ? 0 : 1;
        }

        int fixedOverflow() {
            condition = 3;
            return (mask & FIXED) != 0 ? FIXED_OVERFLOW : DONE;
        }

        int decimalOverflow() {
            condition = 3;
            return (mask & DECIMAL) != 0 ? DECIMAL_OVERFLOW : DONE;
        }
    }

    /** The parts of the instruction that is being done; one object serves all of them. */
    private static final class Instruction {
        private int code;
        private int second;
        private int r1;
        private int r2;
        private int a1;
        private int a2;
        private int behind;

        int fetch(State state) {
            int at = state.next;
            if ((at & 1) != 0) {
                return SPECIFICATION;
            }
            if (!state.memory.holds(at, 2)) {
                return ADDRESSING;
            }
            code = state.memory.get(at);
            int length = code < FIRST_OF_FOUR_OCTETS ? 2 : code < FIRST_OF_SIX_OCTETS ? 4 : 6;
            if (!state.memory.holds(at, length)) {
                return ADDRESSING;
            }
            second = state.memory.get(at + 1);
            r1 = second >> 4;
            r2 = second & 15;
            behind = at + length;
            if (length > 2) {
                findAddresses(state, at);
            }
            return DONE;
        }

        /** An instruction with one address has it as both, so that either name serves. */
        private void findAddresses(State state, int at) {
            int index = code < FIRST_WITHOUT_INDEX && r2 != 0 ? state.value(r2) : 0;
            a1 = place(state, at + 2) + index & ADDRESSES;
            a2 = code < FIRST_OF_SIX_OCTETS ? a1 : place(state, at + 4) & ADDRESSES;
        }

        private static int place(State state, int at) {
            int base = state.memory.get(at) >> 4;
            int distance = (state.memory.get(at) & 15) * 256 + state.memory.get(at + 1);
            return base == 0 ? distance : distance + state.value(base);
        }
    }

    /** Arithmetic, comparisons and bits of a register with a register, word or half; shifts. */
    private static final class Arithmetic {
        private static final int FROM_WORD = 64;
        private static final int FROM_HALF = 48;

        private final State state;

        Arithmetic(State state) {
            this.state = state;
        }

        int withRegister(Instruction x) {
            if (lacksPair(x.code, x.r1)) {
                return SPECIFICATION;
            }
            return apply(x.code, x.r1, state.value(x.r2));
        }

        int withWord(Instruction x) {
            int operation = x.code - FROM_WORD;
            if (lacksPair(operation, x.r1)) {
                return SPECIFICATION;
            }
            int fault = state.memory.faultOf(x.a2, 4);
            return fault != DONE ? fault : apply(operation, x.r1, state.memory.word(x.a2));
        }

        int withHalf(Instruction x) {
            int fault = state.memory.faultOf(x.a2, 2);
            if (fault != DONE) {
                return fault;
            }
            int v = state.memory.half(x.a2);
            if (x.code == MH) {
                state.put(x.r1, state.value(x.r1) * v);
                return DONE;
            }
            return apply(x.code - FROM_HALF, x.r1, v);
        }

        int shift(Instruction x) {
            int by = x.a2 & 63;
            int v = state.value(x.r1);
            switch (x.code) {
                case SRL:
                    return load(x.r1, (int) ((v & UNSIGNED) >>> by));
                case SLL:
                    return load(x.r1, (int) ((v & UNSIGNED) << by));
                case SRA:
                    return putSigned(x.r1, (long) v >> by);
                default:
                    return shiftLeftBelowSign(x.r1, by);
            }
        }

        private static boolean lacksPair(int operation, int r) {
            return (operation == MR || operation == DR) && (r & 1) != 0;
        }

        /** Operations bear the codes of RR; those of words and halves are brought to them. */
        private int apply(int operation, int r, int v) {
            int u = state.value(r);
            switch (operation) {
                case LPR:
                    return putSigned(r, Math.abs((long) v));
                case LNR:
                    return putSigned(r, -Math.abs((long) v));
                case LTR:
                    return putSigned(r, v);
                case LCR:
                    return putSigned(r, -(long) v);
                case NR:
                    return putBits(r, u & v);
                case CLR:
                    return compare(u & UNSIGNED, v & UNSIGNED);
                case OR:
                    return putBits(r, u | v);
                case XR:
                    return putBits(r, u ^ v);
                case LR:
                    return load(r, v);
                case CR:
                    return compare(u, v);
                case AR:
                    return putSigned(r, (long) u + v);
                case SR:
                    return putSigned(r, (long) u - v);
                case MR:
                    return multiply(r, v);
                case DR:
                    return divide(r, v);
                case ALR:
                    return putUnsigned(r, (u & UNSIGNED) + (v & UNSIGNED));
                case SLR:
                    return putUnsigned(r, (u & UNSIGNED) + (~v & UNSIGNED) + 1);
                default:
                    return OPERATION;
            }
        }

        private int load(int r, int v) {
            state.put(r, v);
            return DONE;
        }

        private int compare(long u, long v) {
            state.conditionBySign(u - v);
            return DONE;
        }

        private int putBits(int r, int bits) {
            state.put(r, bits);
            state.conditionByBits(bits);
            return DONE;
        }

        private int putSigned(int r, long exact) {
            int kept = (int) exact;
            state.put(r, kept);
            state.conditionBySign(kept);
            return kept == exact ? DONE : state.fixedOverflow();
        }

        private int putUnsigned(int r, long exact) {
            int kept = (int) exact;
            state.put(r, kept);
            state.condition = (exact > UNSIGNED ? 2 : 0) + (kept != 0 ? 1 : 0);
            return DONE;
        }

        private int multiply(int r, int v) {
            long product = (long) state.value(r + 1) * v;
            state.put(r, (int) (product >> 32));
            state.put(r + 1, (int) product);
            return DONE;
        }

        private int divide(int r, int v) {
            if (v == 0) {
                return FIXED_DIVIDE;
            }
            long whole = (long) state.value(r) << 32 | state.value(r + 1) & UNSIGNED;
            long quotient = whole / v;
            if (quotient != (int) quotient) {
                return FIXED_DIVIDE;
            }
            state.put(r, (int) (whole % v));
            state.put(r + 1, (int) quotient);
            return DONE;
        }

        /** Bit by bit, since zeros that came in may go out again and be unlike the sign. */
        private int shiftLeftBelowSign(int r, int by) {
            int v = state.value(r);
            int sign = v & LEAST_INT;
            boolean lost = false;
            for (int i = 0; i < by; i++) {
                int moved = v << 1;
                lost = lost || (moved & LEAST_INT) != sign;
                v = moved & ~LEAST_INT | sign;
            }
            state.put(r, v);
            state.conditionBySign(v);
            return lost ? state.fixedOverflow() : DONE;
        }
    }

    /** Registers to memory and back, without a look at what they mean. */
    private static final class Transfers {
        private final State state;

        Transfers(State state) {
            this.state = state;
        }

        int perform(Instruction x) {
            switch (x.code) {
                case STH:
                    return store(x, 2);
                case LA:
                    state.put(x.r1, x.a2);
                    return DONE;
                case STC:
                    return store(x, 1);
                case IC:
                    return insert(x);
                case ST:
                    return store(x, 4);
                default:
                    return several(x);
            }
        }

        private int store(Instruction x, int size) {
            int fault = state.memory.faultOf(x.a2, size);
            if (fault == DONE) {
                state.memory.store(x.a2, size, state.value(x.r1));
            }
            return fault;
        }

        private int insert(Instruction x) {
            if (!state.memory.holds(x.a2, 1)) {
                return ADDRESSING;
            }
            state.put(x.r1, state.value(x.r1) & ~255 | state.memory.get(x.a2));
            return DONE;
        }

        private int several(Instruction x) {
            int registers = (x.r2 - x.r1 & 15) + 1;
            if ((x.a2 & 3) != 0) {
                return SPECIFICATION;
            }
            if (!state.memory.holds(x.a2, 4 * registers)) {
                return ADDRESSING;
            }
            for (int i = 0; i < registers; i++) {
                int r = x.r1 + i & 15;
                if (x.code == STM) {
                    state.memory.store(x.a2 + 4 * i, 4, state.value(r));
                } else {
                    state.put(r, state.memory.word(x.a2 + 4 * i));
                }
            }
            return DONE;
        }
    }

    /** Instructions that may go elsewhere. */
    private static final class Branches {
        private final State state;

        Branches(State state) {
            this.state = state;
        }

        int perform(Instruction x) {
            boolean isByRegister = x.code < FIRST_OF_FOUR_OCTETS;
            // Taken before the registers change: R1 may be the one that tells where to go.
            int target = isByRegister ? state.value(x.r2) & ADDRESSES : x.a2;
            boolean goes = decide(x);
            if (goes && !(isByRegister && x.r2 == 0)) {
                state.next = target;
            }
            return DONE;
        }

        private boolean decide(Instruction x) {
            switch (x.code) {
                case BALR:
                case BAL:
                    state.put(x.r1, x.behind);
                    return true;
                case BCTR:
                case BCT:
                    state.put(x.r1, state.value(x.r1) - 1);
                    return state.value(x.r1) != 0;
                case BCR:
                case BC:
                    return (x.r1 & 8 >> state.condition) != 0;
                default:
                    return isAboveAfterStep(x) == (x.code == BXH);
            }
        }

        private boolean isAboveAfterStep(Instruction x) {
            int limit = state.value(x.r2 | 1);
            int sum = state.value(x.r1) + state.value(x.r2);
            state.put(x.r1, sum);
            return sum > limit;
        }
    }

    /** Single octets with an immediate one, and fields octet by octet. */
    private static final class Octets {
        private final State state;
        private final Memory memory;

        Octets(State state) {
            this.state = state;
            this.memory = state.memory;
        }

        int withImmediate(Instruction x) {
            if (!memory.holds(x.a1, 1)) {
                return ADDRESSING;
            }
            int octet = memory.get(x.a1);
            switch (x.code) {
                case TM:
                    testBits(octet, x.second);
                    return DONE;
                case MVI:
                    memory.put(x.a1, x.second);
                    return DONE;
                case NI:
                    return putBits(x.a1, octet & x.second);
                case CLI:
                    state.conditionBySign(octet - x.second);
                    return DONE;
                case OI:
                    return putBits(x.a1, octet | x.second);
                default:
                    return putBits(x.a1, octet ^ x.second);
            }
        }

        int withField(Instruction x) {
            int n = x.second + 1;
            if (!memory.holds(x.a1, n)) {
                return ADDRESSING;
            }
            if (x.code == TR) {
                return translate(x, n);
            }
            if (!memory.holds(x.a2, n)) {
                return ADDRESSING;
            }
            return x.code == CLC ? compare(x, n) : rewrite(x, n);
        }

        private void testBits(int octet, int tested) {
            int found = octet & tested;
            state.condition = found == 0 ? 0 : found == tested ? 3 : 1;
        }

        private int putBits(int a, int bits) {
            memory.put(a, bits);
            state.conditionByBits(bits);
            return DONE;
        }

        private int compare(Instruction x, int n) {
            int difference = 0;
            for (int i = 0; i < n && difference == 0; i++) {
                difference = memory.get(x.a1 + i) - memory.get(x.a2 + i);
            }
            state.conditionBySign(difference);
            return DONE;
        }

        /** Each octet is put before the next is taken: fields that overlap depend on it. */
        private int rewrite(Instruction x, int n) {
            int all = 0;
            for (int i = 0; i < n; i++) {
                int octet = join(x.code, memory.get(x.a1 + i), memory.get(x.a2 + i));
                memory.put(x.a1 + i, octet);
                all = all | octet;
            }
            if (x.code >= NC) {
                state.conditionByBits(all);
            }
            return DONE;
        }

        private static int join(int code, int old, int other) {
            switch (code) {
                case MVN:
                    return old & 0xF0 | other & 0x0F;
                case MVZ:
                    return old & 0x0F | other & 0xF0;
                case NC:
                    return old & other;
                case OC:
                    return old | other;
                case XC:
                    return old ^ other;
                default:
                    return other;
            }
        }

        private int translate(Instruction x, int n) {
            for (int i = 0; i < n; i++) {
                if (!memory.holds(entry(x, i), 1)) {
                    return ADDRESSING;
                }
            }
            for (int i = 0; i < n; i++) {
                memory.put(x.a1 + i, memory.get(entry(x, i)));
            }
            return DONE;
        }

        private int entry(Instruction x, int i) {
            return x.a2 + memory.get(x.a1 + i) & ADDRESSES;
        }
    }

    /** Packed fields, and the ways to and from them. */
    private static final class Decimals {
        private static final int ZONE = 0xF0;

        private final State state;
        private final Memory memory;
        private final int[] source = new int[16];

        Decimals(State state) {
            this.state = state;
            this.memory = state.memory;
        }

        int convert(Instruction x) {
            int fault = memory.faultOf(x.a2, 8);
            if (fault != DONE) {
                return fault;
            }
            if (x.code == CVD) {
                long v = state.value(x.r1);
                memory.putDecimal(x.a2, 8, Math.abs(v), v < 0);
                return DONE;
            }
            return convertToBinary(x);
        }

        private int convertToBinary(Instruction x) {
            if (!memory.isPacked(x.a2, 8)) {
                return DATA;
            }
            long v = memory.decimal(x.a2, 8);
            if (v != (int) v) {
                return FIXED_DIVIDE;
            }
            state.put(x.r1, (int) v);
            return DONE;
        }

        int changeForm(Instruction x) {
            int n1 = x.r1 + 1;
            int n2 = x.r2 + 1;
            if (!memory.holds(x.a1, n1) || !memory.holds(x.a2, n2)) {
                return ADDRESSING;
            }
            for (int i = 0; i < n2 && i < source.length; i++) {
                source[i] = memory.get(x.a2 + i);
            }
            int last = sourceOctet(n2 - 1);
            memory.put(x.a1 + n1 - 1, (last & 15) << 4 | last >> 4);
            if (x.code == PACK) {
                packRest(x.a1, n1, n2);
            } else {
                unpackRest(x.a1, n1, n2);
            }
            return DONE;
        }

        private int sourceOctet(int i) {
            return i >= 0 && i < source.length ? source[i] : 0;
        }

        private void packRest(int a, int n1, int n2) {
            int from = n2 - 2;
            for (int i = n1 - 2; i >= 0; i--) {
                int low = sourceOctet(from) & 15;
                int high = sourceOctet(from - 1) & 15;
                memory.put(a + i, high << 4 | low);
                from = from - 2;
            }
        }

        private void unpackRest(int a, int n1, int n2) {
            for (int k = 0; k < n1 - 1; k++) {
                int octet = sourceOctet(n2 - 2 - k / 2);
                int digit = k % 2 == 0 ? octet & 15 : octet >> 4;
                memory.put(a + n1 - 2 - k, ZONE | digit);
            }
        }

        int calculate(Instruction x) {
            int n1 = x.r1 + 1;
            int n2 = x.r2 + 1;
            int fault = faultOfFields(x, n1, n2);
            if (fault != DONE) {
                return fault;
            }
            long u = memory.decimal(x.a1, n1);
            long v = memory.decimal(x.a2, n2);
            switch (x.code) {
                case ZAP:
                    return putSum(x.a1, n1, v);
                case CP:
                    state.conditionBySign(u - v);
                    return DONE;
                case AP:
                    return putSum(x.a1, n1, u + v);
                case SP:
                    return putSum(x.a1, n1, u - v);
                case MP:
                    return multiply(x, n1, n2);
                default:
                    return divide(x, n1, n2);
            }
        }

        private int faultOfFields(Instruction x, int n1, int n2) {
            boolean isTooLong = n1 > LONGEST_PACKED || n2 > LONGEST_PACKED;
            if (isTooLong || (x.code >= MP && n2 >= n1)) {
                return SPECIFICATION;
            }
            if (!memory.holds(x.a1, n1) || !memory.holds(x.a2, n2)) {
                return ADDRESSING;
            }
            boolean isFirstRight = x.code == ZAP || memory.isPacked(x.a1, n1);
            if (!isFirstRight || !memory.isPacked(x.a2, n2)) {
                return DATA;
            }
            return x.code == MP && !startsWithZeros(x.a1, n2) ? DATA : DONE;
        }

        private boolean startsWithZeros(int a, int n) {
            int all = 0;
            for (int i = 0; i < n; i++) {
                all = all | memory.get(a + i);
            }
            return all == 0;
        }

        private static boolean hasRoom(long digits, int n) {
            long bound = 10;
            for (int i = 1; i < n; i++) {
                bound = bound * 100;
            }
            return digits < bound;
        }

        private int putSum(int a, int n, long sum) {
            long digits = Math.abs(sum);
            memory.putDecimal(a, n, digits, sum < 0);
            state.conditionBySign(sum);
            return hasRoom(digits, n) ? DONE : state.decimalOverflow();
        }

        /** The signs tell the product's own, not the values: a zero may be minus here. */
        private int multiply(Instruction x, int n1, int n2) {
            long product = memory.decimal(x.a1, n1) * memory.decimal(x.a2, n2);
            boolean isMinus = memory.isMinus(x.a1, n1) != memory.isMinus(x.a2, n2);
            memory.putDecimal(x.a1, n1, Math.abs(product), isMinus);
            return DONE;
        }

        /** Signs are looked at before the quotient is put: the fields may overlap. */
        private int divide(Instruction x, int n1, int n2) {
            long u = Math.abs(memory.decimal(x.a1, n1));
            long v = Math.abs(memory.decimal(x.a2, n2));
            int quotientOctets = n1 - n2;
            if (v == 0 || !hasRoom(u / v, quotientOctets)) {
                return DECIMAL_DIVIDE;
            }
            boolean isFirstMinus = memory.isMinus(x.a1, n1);
            boolean isSecondMinus = memory.isMinus(x.a2, n2);
            memory.putDecimal(x.a1, quotientOctets, u / v, isFirstMinus != isSecondMinus);
            memory.putDecimal(x.a1 + quotientOctets, n2, u % v, isFirstMinus);
            return DONE;
        }
    }

    /** Does one instruction after the other and keeps the tally of them and of their faults. */
    private static final class Processor {
        private final State state;
        private final Instruction instruction = new Instruction();
        private final Arithmetic arithmetic;
        private final Transfers transfers;
        private final Branches branches;
        private final Octets octets;
        private final Decimals decimals;
        private int done = 0;
        private int faults = 0;
        private int latestFault = DONE;

        Processor(State state) {
            this.state = state;
            arithmetic = new Arithmetic(state);
            transfers = new Transfers(state);
            branches = new Branches(state);
            octets = new Octets(state);
            decimals = new Decimals(state);
        }

        int step() {
            int at = state.next;
            int fault = instruction.fetch(state);
            if (fault == DONE) {
                state.next = instruction.behind;
                fault = perform(instruction);
            }
            if (fault == DONE || fault == FIXED_OVERFLOW || fault == DECIMAL_OVERFLOW) {
                done++;
            } else {
                state.next = at;
            }
            if (fault != DONE) {
                faults++;
                latestFault = fault;
            }
            return fault;
        }

        private int perform(Instruction x) {
            switch (x.code) {
                case SVC:
                    state.halt = x.second;
                    return DONE;
                case BALR: case BCTR: case BCR: case BAL: case BCT: case BC: case BXH: case BXLE:
                    return branches.perform(x);
                case STH: case LA: case STC: case IC: case ST: case STM: case LM:
                    return transfers.perform(x);
                case LH: case CH: case AH: case SH: case MH:
                    return arithmetic.withHalf(x);
                case CVD: case CVB:
                    return decimals.convert(x);
                case SRL: case SLL: case SRA: case SLA:
                    return arithmetic.shift(x);
                case TM: case MVI: case NI: case CLI: case OI: case XI:
                    return octets.withImmediate(x);
                case MVN: case MVC: case MVZ: case NC: case CLC: case OC: case XC: case TR:
                    return octets.withField(x);
                case PACK: case UNPK:
                    return decimals.changeForm(x);
                case ZAP: case CP: case AP: case SP: case MP: case DP:
                    return decimals.calculate(x);
                default:
                    return performRegular(x);
            }
        }

        /** The codes of these have no gaps. */
        private int performRegular(Instruction x) {
            if (x.code >= LPR && x.code <= SLR) {
                return arithmetic.withRegister(x);
            }
            return x.code >= N && x.code <= SL ? arithmetic.withWord(x) : OPERATION;
        }
    }
}
