/** Promise 10, the instructions on registers, words and halves: arithmetic, bits, comparisons, shifts, transfers. */
public final class FixedPointTest {
    private static final int LEAST = Integer.MIN_VALUE;
    private static final int MOST = Integer.MAX_VALUE;
    private static final int FIELD = Check.FIELD;
    private static final int AT = Check.AT;

    public static void main(String[] args) {
        loads();
        sums();
        sumsWithoutSigns();
        comparisons();
        bits();
        signs();
        products();
        quotients();
        halves();
        shifts();
        signedShifts();
        stores();
        several();
        addresses();
        Check.end();
    }

    /** R2 op R3; the code of RR serves for the word too, 64 above. */
    private static void both(String what, int code, int u, int v, int result, int condition) {
        DecimalMachine m = Check.ready(0, condition == 0 ? 1 : 0);
        operands(m, u, v);
        m.rr(AT, code, 2, 3);
        Check.goes(what + " RR", m, condition, AT + 2);
        Check.same(what + " RR", m.register(2), result);
        Check.same(what + " RR leaves R3", m.register(3), v);
        DecimalMachine w = Check.ready(0, condition == 0 ? 1 : 0);
        operands(w, u, 0);
        w.poke(FIELD, 4, v);
        w.rx(AT, code + 64, 2, 0, 0, FIELD);
        Check.goes(what + " RX", w, condition, AT + 4);
        Check.same(what + " RX", w.register(2), result);
    }

    /** The same with MASK FIXED: FAULT 8, and all is done. */
    private static void bothOverflow(String what, int code, int u, int v, int result) {
        both(what, code, u, v, result, 3);
        DecimalMachine m = Check.ready(1, 0);
        operands(m, u, v);
        m.rr(AT, code, 2, 3);
        Check.overflowed(what + " RR", m, 8, AT + 2);
        Check.same(what + " RR masked", m.register(2), result);
        DecimalMachine w = Check.ready(3, 0);
        operands(w, u, 0);
        w.poke(FIELD, 4, v);
        w.rx(AT, code + 64, 2, 0, 0, FIELD);
        Check.overflowed(what + " RX", w, 8, AT + 4);
        Check.same(what + " RX masked", w.register(2), result);
        DecimalMachine d = Check.ready(2, 0);
        operands(d, u, v);
        d.rr(AT, code, 2, 3);
        Check.done(what + " with MASK DECIMAL alone", d, 3);
    }

    private static void operands(DecimalMachine m, int u, int v) {
        m.set(2, u);
        m.set(3, v);
    }

    private static DecimalMachine registers(int code, int u, int v, int mask, int condition) {
        DecimalMachine m = Check.ready(mask, condition);
        operands(m, u, v);
        m.rr(AT, code, 2, 3);
        return m;
    }

    private static void loads() {
        for (int condition = 0; condition <= 3; condition++) {
            DecimalMachine m = registers(24, 5, -9, 3, condition);
            Check.goes("LR keeps CC", m, condition, AT + 2);
            Check.same("LR", m.register(2), -9);
        }
        DecimalMachine m = Check.ready(0, 2);
        m.poke(FIELD + 4, 4, 0x87654321L);
        m.rx(AT, 88, 0, 0, 0, FIELD + 4);
        Check.goes("L", m, 2, AT + 4);
        Check.same("L", m.register(0), 0x87654321);
    }

    private static void sums() {
        both("A", 26, 5, 7, 12, 2);
        both("A to zero", 26, -7, 7, 0, 0);
        both("A below", 26, -7, 6, -1, 1);
        bothOverflow("A beyond", 26, MOST, 1, LEAST);
        bothOverflow("A beyond below", 26, LEAST, -1, MOST);
        bothOverflow("A beyond to zero", 26, LEAST, LEAST, 0);
        both("A to the greatest", 26, MOST - 1, 1, MOST, 2);
        both("A to the least", 26, LEAST + 1, -1, LEAST, 1);
        both("S", 27, 5, 3, 2, 2);
        both("S to zero", 27, LEAST, LEAST, 0, 0);
        both("S below", 27, 3, 5, -2, 1);
        bothOverflow("S beyond", 27, 0, LEAST, LEAST);
        bothOverflow("S beyond below", 27, LEAST, 1, MOST);
        DecimalMachine m = Check.ready(1, 1);
        m.set(2, 21);
        m.rr(AT, 26, 2, 2);
        Check.done("AR with itself", m, 2);
        Check.same("AR with itself", m.register(2), 42);
    }

    private static void sumsWithoutSigns() {
        both("AL zero", 30, 0, 0, 0, 0);
        both("AL", 30, MOST, 1, LEAST, 1);
        both("AL carry to zero", 30, -1, 1, 0, 2);
        both("AL carry", 30, -1, 2, 1, 3);
        both("AL carry of two", 30, -1, -1, -2, 3);
        both("AL no carry at the edge", 30, -2, 1, -1, 1);
        both("SL like", 31, 5, 5, 0, 2);
        both("SL zero from zero", 31, 0, 0, 0, 2);
        both("SL above", 31, 7, 5, 2, 3);
        both("SL below", 31, 5, 7, -2, 1);
        both("SL above without signs", 31, -1, 1, -2, 3);
        both("SL below without signs", 31, 1, -1, 2, 1);
        DecimalMachine m = registers(30, MOST, 1, 1, 0);
        Check.done("ALR has no FAULT 8", m, 1);
    }

    private static void comparisons() {
        both("C like", 25, 5, 5, 5, 0);
        both("C below", 25, -1, 1, -1, 1);
        both("C above", 25, 1, -1, 1, 2);
        both("C far below", 25, LEAST, MOST, LEAST, 1);
        both("C far above", 25, MOST, LEAST, MOST, 2);
        both("CL like", 21, -1, -1, -1, 0);
        both("CL above", 21, -1, 1, -1, 2);
        both("CL below", 21, 1, LEAST, 1, 1);
    }

    private static void bits() {
        both("N", 20, 12, 10, 8, 1);
        both("N zero", 20, 5, 10, 0, 0);
        both("N of the highest", 20, LEAST, -1, LEAST, 1);
        both("O", 22, 12, 10, 14, 1);
        both("O zero", 22, 0, 0, 0, 0);
        both("X", 23, 12, 10, 6, 1);
        both("X zero", 23, -5, -5, 0, 0);
    }

    private static void sign(String what, int code, int v, int result, int condition) {
        DecimalMachine m = registers(code, 99, v, 0, condition == 0 ? 1 : 0);
        Check.goes(what, m, condition, AT + 2);
        Check.same(what, m.register(2), result);
    }

    private static void signs() {
        sign("LTR", 18, 0, 0, 0);
        sign("LTR below", 18, -4, -4, 1);
        sign("LTR above", 18, 4, 4, 2);
        sign("LTR least", 18, LEAST, LEAST, 1);
        sign("LCR", 19, 4, -4, 1);
        sign("LCR zero", 19, 0, 0, 0);
        sign("LCR above", 19, -4, 4, 2);
        sign("LCR least", 19, LEAST, LEAST, 3);
        sign("LPR", 16, -4, 4, 2);
        sign("LPR plus", 16, 4, 4, 2);
        sign("LPR zero", 16, 0, 0, 0);
        sign("LPR least", 16, LEAST, LEAST, 3);
        sign("LNR", 17, 4, -4, 1);
        sign("LNR minus", 17, -4, -4, 1);
        sign("LNR zero", 17, 0, 0, 0);
        sign("LNR least", 17, LEAST, LEAST, 1);
        for (int code : new int[] {16, 19}) {
            DecimalMachine m = registers(code, 99, LEAST, 1, 0);
            Check.overflowed("LPR, LCR masked", m, 8, AT + 2);
            Check.same("LPR, LCR masked", m.register(2), LEAST);
        }
        Check.done("LNR masked", registers(17, 99, LEAST, 1, 0), 1);
    }

    private static void product(String what, int u, int v, int high, int low) {
        DecimalMachine m = Check.ready(3, 2);
        m.set(4, 1234);
        m.set(5, u);
        m.set(6, v);
        m.rr(AT, 28, 4, 6);
        Check.goes(what, m, 2, AT + 2);
        Check.same(what + " high", m.register(4), high);
        Check.same(what + " low", m.register(5), low);
        DecimalMachine w = Check.ready(3, 1);
        w.set(15, u);
        w.poke(FIELD, 4, v);
        w.rx(AT, 92, 14, 0, 0, FIELD);
        Check.goes(what + " RX", w, 1, AT + 4);
        Check.same(what + " RX high", w.register(14), high);
        Check.same(what + " RX low", w.register(15), low);
    }

    private static void products() {
        product("M", 6, 7, 0, 42);
        product("M minus", -6, 7, -1, -42);
        product("M of the least", LEAST, LEAST, 0x40000000, 0);
        product("M of the greatest", MOST, MOST, 0x3FFFFFFF, 1);
        product("M by zero", -5, 0, 0, 0);
        DecimalMachine self = Check.ready(0, 0);
        self.set(4, 3);
        self.set(5, 100000);
        self.rr(AT, 28, 4, 4);
        Check.done("MR by its own high one", self, 0);
        Check.same("MR by its own high one", self.register(5), 300000);
        for (int code : new int[] {28, 29}) {
            DecimalMachine m = Check.ready(0, 3);
            m.set(6, 1);
            m.rr(AT, code, 5, 6);
            Check.stopped("MR, DR odd", m, 6);
            DecimalMachine w = Check.ready(0, 3);
            w.rx(AT, code + 64, 5, 0, 0, 1024);
            Check.stopped("M, D odd, and outside", w, 6);
            DecimalMachine at = Check.ready(0, 3);
            at.rx(AT, code + 64, 4, 0, 0, FIELD + 2);
            Check.stopped("M, D at half a word", at, 6);
        }
    }

    private static void quotient(String what, long whole, int v, int rest, int quotient) {
        DecimalMachine m = divide(whole, v);
        Check.goes(what, m, 3, AT + 2);
        Check.same(what + " rest", m.register(4), rest);
        Check.same(what + " quotient", m.register(5), quotient);
        DecimalMachine w = Check.ready(0, 1);
        w.set(4, (int) (whole >> 32));
        w.set(5, (int) whole);
        w.poke(FIELD, 4, v);
        w.rx(AT, 93, 4, 0, 0, FIELD);
        Check.goes(what + " RX", w, 1, AT + 4);
        Check.same(what + " RX rest", w.register(4), rest);
        Check.same(what + " RX quotient", w.register(5), quotient);
    }

    private static DecimalMachine divide(long whole, int v) {
        DecimalMachine m = Check.ready(0, 3);
        m.set(4, (int) (whole >> 32));
        m.set(5, (int) whole);
        m.set(6, v);
        m.rr(AT, 29, 4, 6);
        return m;
    }

    private static void quotients() {
        quotient("D", 17, 5, 2, 3);
        quotient("D minus", -17, 5, -2, -3);
        quotient("D by minus", 17, -5, 2, -3);
        quotient("D both minus", -17, -5, -2, 3);
        quotient("D large", 0xFFFFFFFFL, 2, 1, MOST);
        quotient("D to the least", -(1L << 32), 2, 0, LEAST);
        quotient("D to the greatest", (long) MOST * MOST + MOST - 1, MOST, MOST - 1, MOST);
        Check.stopped("D by zero", divide(17, 0), 9);
        Check.stopped("D no room", divide(1L << 32, 2), 9);
        Check.stopped("D no room, least", divide(LEAST, -1), 9);
        Check.stopped("D no room, least long", divide(Long.MIN_VALUE, -1), 9);
        DecimalMachine w = Check.ready(0, 2);
        w.rx(AT, 93, 4, 0, 0, FIELD);
        Check.stopped("D by a word 0", w, 9);
        DecimalMachine odd = Check.ready(0, 2);
        odd.rr(AT, 29, 5, 6);
        Check.stopped("DR odd, by zero", odd, 6);
    }

    private static DecimalMachine half(int code, int u, int v, int mask, int condition) {
        DecimalMachine m = Check.ready(mask, condition);
        m.set(2, u);
        m.poke(FIELD + 2, 2, v);
        m.rx(AT, code, 2, 0, 0, FIELD + 2);
        return m;
    }

    private static void half(String what, int code, int u, int v, int result, int condition) {
        int other = code == 72 || code == 76 ? condition : 3 - condition;
        DecimalMachine m = half(code, u, v, 0, other);
        Check.goes(what, m, condition, AT + 4);
        Check.same(what, m.register(2), result);
    }

    private static void halves() {
        half("LH", 72, 9, 0x7FFF, 32767, 3);
        half("LH minus", 72, 9, 0x8000, -32768, 2);
        half("CH", 73, -1, 0xFFFF, -1, 0);
        half("CH below", 73, -2, 0xFFFF, -2, 1);
        half("CH above", 73, 32768, 0x7FFF, 32768, 2);
        half("AH", 74, 10, 0xFFFB, 5, 2);
        half("AH zero", 74, 5, 0xFFFB, 0, 0);
        half("AH below", 74, 4, 0xFFFB, -1, 1);
        half("AH beyond", 74, MOST, 1, LEAST, 3);
        half("SH", 75, 10, 0xFFFB, 15, 2);
        half("SH zero", 75, 7, 7, 0, 0);
        half("SH beyond", 75, LEAST, 1, MOST, 3);
        half("MH", 76, 7, 0xFFFE, -14, 1);
        half("MH low half", 76, 0x12345678, 0x7FFF, 0x12345678 * 0x7FFF, 2);
        DecimalMachine odd = half(76, 7, 3, 0, 0);
        odd.set(3, 7);
        odd.rx(AT, 76, 3, 0, 0, FIELD + 2);
        Check.done("MH with an odd register", odd, 0);
        Check.same("MH with an odd register", odd.register(3), 21);
        Check.overflowed("AH masked", half(74, MOST, 1, 1, 0), 8, AT + 4);
        Check.overflowed("SH masked", half(75, LEAST, 1, 1, 0), 8, AT + 4);
        for (int code = 72; code <= 76; code++) {
            DecimalMachine at = Check.ready(0, 1);
            at.rx(AT, code, 2, 0, 0, FIELD + 1);
            Check.stopped("half at an odd place", at, 6);
            DecimalMachine out = Check.ready(0, 1);
            out.rx(AT, code, 2, 0, 0, 1024);
            Check.stopped("half outside", out, 5);
        }
        for (int code = 84; code <= 95; code++) {
            DecimalMachine at = Check.ready(0, 1);
            at.rx(AT, code, 2, 0, 0, 4094);
            Check.stopped("word at half a place, outside", at, 6);
            at.rx(AT, code, 2, 0, 0, FIELD + 1);
            Check.stopped("word at an odd place", at, 6);
            DecimalMachine out = Check.ready(0, 1);
            out.rx(AT, code, 2, 0, 0, 1024);
            Check.stopped("word outside", out, 5);
        }
    }

    private static DecimalMachine shifted(int code, int v, int by, int mask, int condition) {
        DecimalMachine m = Check.ready(mask, condition);
        m.set(2, v);
        m.rx(AT, code, 2, 7, 0, by);
        m.set(7, 1);
        return m;
    }

    private static void shift(String what, int code, int v, int by, int result, int condition) {
        boolean keeps = code < 138;
        DecimalMachine m = shifted(code, v, by, 0, keeps ? condition : 3 - condition);
        Check.goes(what + " by " + by, m, condition, AT + 4);
        Check.same(what + " by " + by, m.register(2), result);
    }

    private static void shifts() {
        shift("SRL", 136, -1, 4, 0x0FFFFFFF, 2);
        shift("SRL", 136, -1, 0, -1, 1);
        shift("SRL", 136, -1, 31, 1, 3);
        shift("SRL", 136, -1, 32, 0, 3);
        shift("SRL", 136, -1, 63, 0, 0);
        shift("SRL", 136, -2, 64, -2, 0);
        shift("SRL", 136, -2, 65, MOST, 0);
        shift("SLL", 137, 0x12345678, 4, 0x23456780, 3);
        shift("SLL", 137, -1, 31, LEAST, 2);
        shift("SLL", 137, -1, 32, 0, 2);
        shift("SLL", 137, -1, 63, 0, 2);
        shift("SLL", 137, 3, 4095, 0, 1);
        Check.done("SLL has no FAULT 8", shifted(137, -1, 5, 3, 3), 3);
        DecimalMachine base = Check.ready(0, 0);
        base.set(2, 256);
        base.set(3, -60);
        base.rx(AT, 136, 2, 0, 3, 1);
        Check.done("SRL by D(B)", base, 0);
        Check.same("SRL by D(B)", base.register(2), 256 >> 5);
    }

    private static void signedShifts() {
        shift("SRA", 138, -8, 1, -4, 1);
        shift("SRA", 138, 8, 3, 1, 2);
        shift("SRA", 138, 8, 4, 0, 0);
        shift("SRA", 138, -1, 63, -1, 1);
        shift("SRA", 138, MOST, 32, 0, 0);
        shift("SRA", 138, LEAST, 31, -1, 1);
        shift("SLA", 139, 5, 2, 20, 2);
        shift("SLA", 139, -5, 2, -20, 1);
        shift("SLA", 139, 0, 63, 0, 0);
        shift("SLA", 139, LEAST, 0, LEAST, 1);
        shift("SLA", 139, 1, 30, 0x40000000, 2);
        shift("SLA", 139, 1, 31, 0, 3);
        shift("SLA", 139, 0x40000001, 1, 2, 3);
        shift("SLA", 139, LEAST, 1, LEAST, 3);
        shift("SLA", 139, -1, 31, LEAST, 1);
        shift("SLA", 139, -1, 32, LEAST, 3);
        shift("SLA", 139, -1, 63, LEAST, 3);
        shift("SLA", 139, 0x60000000, 2, 0, 3);
        DecimalMachine m = shifted(139, 0x60000001, 2, 1, 0);
        Check.overflowed("SLA masked", m, 8, AT + 4);
        Check.same("SLA masked", m.register(2), 4);
        Check.done("SLA masked with room", shifted(139, -5, 2, 1, 0), 1);
    }

    private static DecimalMachine transfer(int code, int v, int d) {
        DecimalMachine m = Check.ready(3, 2);
        m.poke(FIELD, 8, 0x1111111011111111L);
        m.set(2, v);
        m.rx(AT, code, 2, 0, 0, d);
        return m;
    }

    private static void stores() {
        DecimalMachine st = transfer(80, 0x89ABCDEF, FIELD + 4);
        Check.goes("ST", st, 2, AT + 4);
        Check.same("ST", Check.octets(st, FIELD, 9), "1111111089abcdef00");
        DecimalMachine sth = transfer(64, 0x89ABCDEF, FIELD + 2);
        Check.goes("STH", sth, 2, AT + 4);
        Check.same("STH", Check.octets(sth, FIELD, 8), "1111cdef11111111");
        DecimalMachine stc = transfer(66, 0x89ABCDEF, FIELD + 1);
        Check.goes("STC", stc, 2, AT + 4);
        Check.same("STC", Check.octets(stc, FIELD, 8), "11ef111011111111");
        DecimalMachine ic = transfer(67, 0x89ABCDEF, FIELD + 3);
        Check.goes("IC", ic, 2, AT + 4);
        Check.same("IC", ic.register(2), 0x89ABCD10);
        Check.stopped("ST at half a word", transfer(80, -1, FIELD + 2), 6);
        Check.stopped("STH at an odd place", transfer(64, -1, FIELD + 1), 6);
        int[][] outside = {{80, 1024}, {64, 1024}, {66, 1024}, {67, 1024}, {66, 4095}, {80, 4092}};
        for (int[] o : outside) {
            Check.stopped("code " + o[0] + " at " + o[1], transfer(o[0], -1, o[1]), 5);
        }
        int[][] last = {{80, 1020}, {64, 1022}, {66, 1023}, {67, 1023}};
        for (int[] o : last) {
            Check.done("code " + o[0] + " at " + o[1], transfer(o[0], -1, o[1]), 2);
        }
    }

    private static void several() {
        DecimalMachine m = Check.ready(0, 3);
        for (int r = 0; r < 16; r++) {
            m.set(r, 0x01010101 * r);
        }
        m.rx(AT, 144, 14, 1, 0, FIELD + 4);
        Check.goes("STM", m, 3, AT + 4);
        Check.same("STM", Check.octets(m, FIELD, 24), "000000000e0e0e0e0f0f0f0f000000000101010100000000");
        m.rx(AT + 4, 152, 3, 5, 0, FIELD + 4);
        Check.goes("LM", m, 3, AT + 8);
        Check.same("LM first", m.register(3), 0x0E0E0E0E);
        Check.same("LM last", m.register(5), 0);
        Check.same("LM before", m.register(2), 0x02020202);
        Check.same("LM behind", m.register(6), 0x06060606);
        m.rx(AT + 8, 144, 9, 9, 0, FIELD);
        Check.goes("STM of one", m, 3, AT + 12);
        Check.same("STM of one", Check.octets(m, FIELD, 8), "090909090e0e0e0e");
        DecimalMachine all = Check.ready(0, 1);
        all.set(1, 900);
        all.rx(AT, 152, 2, 1, 1, 60);
        Check.done("LM of all up to the end", all, 1);
        Check.same("LM takes its base before", all.register(1), 1);
        Check.same("LM of a word before", all.register(15), 0);
        DecimalMachine out = Check.ready(0, 1);
        out.rx(AT, 152, 0, 15, 0, 964);
        Check.stopped("LM beyond the end", out, 5);
        DecimalMachine store = Check.ready(0, 1);
        store.set(2, 7);
        store.rx(AT, 144, 2, 4, 0, 1016);
        Check.stopped("STM beyond the end", store, 5);
        DecimalMachine at = Check.ready(0, 1);
        at.rx(AT, 144, 2, 3, 0, 1022);
        Check.stopped("STM at half a word, outside", at, 6);
        DecimalMachine atLoad = Check.ready(0, 1);
        atLoad.rx(AT, 152, 2, 3, 0, FIELD + 1);
        Check.stopped("LM at an odd place", atLoad, 6);
    }

    private static void address(String what, int x, int b, int d, int due) {
        DecimalMachine m = Check.ready(0, 2);
        m.set(0, 1000);
        m.set(3, 70);
        m.set(4, -100);
        m.set(5, 0x12345678);
        m.rx(AT, 65, 3, x, b, d);
        Check.goes(what, m, 2, AT + 4);
        Check.same(what, m.register(3), due);
    }

    private static void addresses() {
        address("D", 0, 0, 4095, 4095);
        address("D(B)", 0, 3, 5, 75);
        address("D(X)", 3, 0, 5, 75);
        address("D(X,B)", 3, 3, 5, 145);
        address("below 0", 0, 4, 0, (1 << 24) - 100);
        address("wraps to 0", 4, 0, 100, 0);
        address("high bits are lost", 5, 0, 1, 0x345679);
        DecimalMachine m = Check.ready(0, 0);
        m.set(6, 0x7F000000);
        m.poke(FIELD, 4, 77);
        m.rx(AT, 88, 2, 0, 6, FIELD);
        Check.done("an address modulo 2^24", m, 0);
        Check.same("an address modulo 2^24", m.register(2), 77);
        DecimalMachine si = Check.ready(0, 0);
        si.set(9, 4);
        si.rx(AT, 146, 0, 9, 0, FIELD);
        Check.done("SI has no X", si, 0);
        Check.same("SI has no X", Check.octets(si, FIELD, 5), "0900000000");
    }
}
