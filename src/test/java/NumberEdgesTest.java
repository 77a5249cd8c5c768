import java.math.BigInteger;

/** "WHAT THEY DO", registers, words and halves: for each sentence that names a boundary, a test of its own. */
public final class NumberEdgesTest {
    private static final int LEAST = Integer.MIN_VALUE;
    private static final int MOST = Integer.MAX_VALUE;
    private static final int FIELD = Step.FIELD;
    private static final int AT = Step.AT;
    private static final BigInteger WORDS = BigInteger.ONE.shiftLeft(32);
    private static final int[] EDGES = {LEAST, LEAST + 1, 0xAAAAAAAA, -65536, -32769, -32768, -2, -1, 0, 1, 2, 255, 256,
        32767, 32768, 65536, 0x40000000, 0x55555555, MOST - 1, MOST};
    /** The codes with an operand in MEMORY, and how many octets it has. */
    private static final int[][] SIZES = {{64, 2}, {66, 1}, {67, 1}, {72, 2}, {73, 2}, {74, 2}, {75, 2}, {76, 2},
        {78, 8}, {79, 8}, {80, 4}, {84, 4}, {85, 4}, {86, 4}, {87, 4}, {88, 4}, {89, 4}, {90, 4}, {91, 4}, {92, 4},
        {93, 4}, {94, 4}, {95, 4}};
    private static final int[] HALVES = {-32768, -32767, -256, -1, 0, 1, 255, 256, 32766, 32767};

    public static void main(String[] args) {
        loads();
        sumsAndDifferences();
        sumsAndDifferencesOfHalves();
        withoutSigns();
        comparisons();
        comparisonsOfHalves();
        bits();
        signs();
        oneRegisterTwice();
        products();
        productsOfHalves();
        quotients();
        quotientsWithoutRoom();
        oddPairs();
        stores();
        insert();
        loadAddress();
        conditions();
        nowhere();
        links();
        counts();
        indexes();
        shiftsWithoutSign();
        shiftsWithSign();
        shiftDistances();
        several();
        placesOfOperands();
        operandsNotInMemory();
        Check.end();
    }

    private static String hex(int v) {
        return String.format("%08x", v);
    }

    private static String halfHex(int v) {
        return String.format("%04x", v & 0xFFFF);
    }

    /** An instruction of R2 and V, V being REGISTER 3, a word or a half. */
    private static Step step(String what, int code, int mask, int condition, int u, int v) {
        Step step = new Step(what + " " + u + " " + v, mask, condition).given(2, u);
        if (code < 64) {
            return step.given(3, v).rr(code, 2, 3);
        }
        boolean isHalf = code >= 72 && code <= 76;
        return step.given(FIELD - 2, "a55a" + (isHalf ? halfHex(v) : hex(v)) + "5aa5").rx(code, 2, 0, 0, FIELD);
    }

    private static int conditionOf(BigInteger exact) {
        return exact.signum() == 0 ? 0 : exact.signum() < 0 ? 1 : 2;
    }

    /** A result that must be an int; otherwise it wraps, with CC 3 or FAULT 8. */
    private static void signed(String what, int code, int u, int v, BigInteger exact) {
        for (int mask = 0; mask <= 3; mask++) {
            Step step = step(what, code, mask, 3, u, v).gives(2, exact.intValue());
            if (exact.bitLength() > 31) {
                step.overflowsIf(mask % 2 == 1, 8);
            } else {
                step.condition(conditionOf(exact)).done();
            }
        }
    }

    /** "L LR LH: R1 is V." CC stays. */
    private static void loads() {
        for (int v : EDGES) {
            for (int condition = 0; condition <= 3; condition++) {
                step("LR", 24, 3, condition, 5, v).gives(2, v).done();
                step("L", 88, 3, condition, 5, v).gives(2, v).done();
            }
        }
        for (int v : HALVES) {
            step("LH", 72, 3, 3, 0x12345678, v).gives(2, v).done();
            step("LH", 72, 3, 0, 0x12345678, v).gives(2, v).done();
        }
    }

    /** "CC 0 zero, 1 below, 2 above, 3 beyond an int (it wraps; with MASK FIXED FAULT 8, all done)" */
    private static void sumsAndDifferences() {
        for (int u : EDGES) {
            for (int v : EDGES) {
                BigInteger sum = BigInteger.valueOf(u).add(BigInteger.valueOf(v));
                BigInteger difference = BigInteger.valueOf(u).subtract(BigInteger.valueOf(v));
                signed("AR", 26, u, v, sum);
                signed("A", 90, u, v, sum);
                signed("SR", 27, u, v, difference);
                signed("S", 91, u, v, difference);
            }
        }
    }

    private static void sumsAndDifferencesOfHalves() {
        for (int u : EDGES) {
            for (int v : HALVES) {
                signed("AH", 74, u, v, BigInteger.valueOf(u).add(BigInteger.valueOf(v)));
                signed("SH", 75, u, v, BigInteger.valueOf(u).subtract(BigInteger.valueOf(v)));
            }
        }
    }

    private static BigInteger unsigned(int v) {
        return BigInteger.valueOf(v).mod(WORDS);
    }

    private static void carried(String what, int code, int u, int v, BigInteger exact) {
        int carry = exact.compareTo(WORDS) >= 0 ? 2 : 0;
        int kept = exact.intValue();
        for (int mask = 0; mask <= 1; mask++) {
            int condition = carry + (kept == 0 ? 0 : 1);
            step(what, code, mask, 3 - condition, u, v).gives(2, kept).condition(condition).done();
        }
    }

    /** "CC 0, 1: zero or not, without a carry out of bit 31; 2, 3: likewise with one (SL: of R1 + not V + 1)" */
    private static void withoutSigns() {
        for (int u : EDGES) {
            for (int v : EDGES) {
                BigInteger sum = unsigned(u).add(unsigned(v));
                BigInteger difference = unsigned(u).add(unsigned(~v)).add(BigInteger.ONE);
                carried("ALR", 30, u, v, sum);
                carried("AL", 94, u, v, sum);
                carried("SLR", 31, u, v, difference);
                carried("SL", 95, u, v, difference);
            }
        }
    }

    private static int conditionOf(int comparison) {
        return comparison == 0 ? 0 : comparison < 0 ? 1 : 2;
    }

    /** "C CR CH: CC 0 like, 1 R1 below, 2 above; CL CLR without signs." */
    private static void comparisons() {
        for (int u : EDGES) {
            for (int v : EDGES) {
                int signed = conditionOf(BigInteger.valueOf(u).compareTo(BigInteger.valueOf(v)));
                int unsigned = conditionOf(unsigned(u).compareTo(unsigned(v)));
                step("CR", 25, 3, 3, u, v).condition(signed).done();
                step("C", 89, 3, 3, u, v).condition(signed).done();
                step("CLR", 21, 3, 3, u, v).condition(unsigned).done();
                step("CL", 85, 3, 3, u, v).condition(unsigned).done();
            }
        }
    }

    private static void comparisonsOfHalves() {
        for (int u : EDGES) {
            for (int v : HALVES) {
                step("CH", 73, 3, 3, u, v).condition(conditionOf(Integer.compare(u, v))).done();
            }
        }
    }

    private static void bitsOf(String what, int code, int u, int v, int result) {
        for (int form : new int[] {code, code + 64}) {
            step(what, form, 3, 3, u, v).gives(2, result).condition(result == 0 ? 0 : 1).done();
        }
    }

    /** "N NR, O OR, X XR: bits; CC 0 if zero, else 1." */
    private static void bits() {
        for (int u : EDGES) {
            for (int v : EDGES) {
                bitsOf("N", 20, u, v, BigInteger.valueOf(u).and(BigInteger.valueOf(v)).intValue());
                bitsOf("O", 22, u, v, BigInteger.valueOf(u).or(BigInteger.valueOf(v)).intValue());
                bitsOf("X", 23, u, v, BigInteger.valueOf(u).xor(BigInteger.valueOf(v)).intValue());
            }
        }
    }

    /** "LTR: ... CC by its sign", "LCR: ... (3 for the least int)", "LPR ... (beyond: CC 3, as A)", "LNR (CC 0, 1)" */
    private static void signs() {
        for (int v : EDGES) {
            BigInteger exact = BigInteger.valueOf(v);
            signed("LTR", 18, 99, v, exact);
            signed("LCR", 19, 99, v, exact.negate());
            signed("LPR", 16, 99, v, exact.abs());
            signed("LNR", 17, 99, v, exact.abs().negate());
        }
    }

    /** R1 and R2 may be one and the same register. */
    private static void oneRegisterTwice() {
        for (int v : EDGES) {
            new Step("LR", 0, 2).given(4, v).rr(24, 4, 4).done();
            new Step("SR", 0, 2).given(4, v).rr(27, 4, 4).gives(4, 0).condition(0).done();
            new Step("SLR", 0, 1).given(4, v).rr(31, 4, 4).gives(4, 0).condition(2).done();
            new Step("XR", 0, 2).given(4, v).rr(23, 4, 4).gives(4, 0).condition(0).done();
            new Step("CR", 0, 2).given(4, v).rr(25, 4, 4).condition(0).done();
            new Step("LNR", 0, 2).given(4, v).rr(17, 4, 4).gives(4, v > 0 ? -v : v).condition(v == 0 ? 0 : 1).done();
        }
    }

    private static void product(int u, int v, int condition) {
        BigInteger exact = BigInteger.valueOf(u).multiply(BigInteger.valueOf(v));
        int high = exact.shiftRight(32).intValue();
        int low = exact.intValue();
        String what = " " + u + " " + v;
        new Step("MR" + what, 3, condition).given(4, 77).given(5, u).given(6, v).rr(28, 4, 6)
            .gives(4, high).gives(5, low).done();
        new Step("M" + what, 3, condition).given(14, 77).given(15, u).given(FIELD, hex(v)).rx(92, 14, 0, 0, FIELD)
            .gives(14, high).gives(15, low).done();
        new Step("MR by its own" + what, 3, condition).given(0, v).given(1, u).rr(28, 0, 0)
            .gives(0, high).gives(1, low).done();
    }

    /** "R1 and the next REGISTER are the 64 bits of that next one times V." */
    private static void products() {
        for (int u : EDGES) {
            for (int v : EDGES) {
                product(u, v, 3);
            }
        }
        product(7, -6, 0);
        product(7, -6, 2);
        new Step("MR by the next", 0, 0).given(4, 77).given(5, -3).rr(28, 4, 5).gives(4, 0).gives(5, 9).done();
    }

    /** "MH: R1 is the low half of R1 times V." */
    private static void productsOfHalves() {
        for (int u : EDGES) {
            for (int v : HALVES) {
                int due = BigInteger.valueOf(u).multiply(BigInteger.valueOf(v)).intValue();
                step("MH", 76, 3, 3, u, v).gives(2, due).done();
            }
        }
        new Step("MH, R1 odd", 0, 1).given(3, 7).given(FIELD, "fffe").rx(76, 3, 0, 0, FIELD).gives(3, -14).done();
    }

    private static Step divides(int code, long whole, int v) {
        Step step = new Step(code + ": " + whole + " / " + v, 3, 3);
        step.given(6, (int) (whole >> 32)).given(7, (int) whole);
        return code == 29 ? step.given(8, v).rr(29, 6, 8) : step.given(FIELD, hex(v)).rx(93, 6, 0, 0, FIELD);
    }

    private static void quotient(long whole, int v) {
        BigInteger[] due = v == 0 ? null : BigInteger.valueOf(whole).divideAndRemainder(BigInteger.valueOf(v));
        for (int code : new int[] {29, 93}) {
            if (due == null || due[0].bitLength() > 31) {
                divides(code, whole, v).stops(9);
            } else {
                divides(code, whole, v).gives(6, due[1].intValue()).gives(7, due[0].intValue()).done();
            }
        }
    }

    /** "the rest (with their sign) to R1, the quotient to the next" */
    private static void quotients() {
        for (int v : EDGES) {
            for (int u : EDGES) {
                quotient(u, v);
                quotient((long) u * v, v);
                quotient((long) u * v + 1, v);
                quotient((long) u * v - 1, v);
            }
        }
        new Step("DR by its own high one", 0, 1).given(6, 1).given(7, 5).rr(29, 6, 6).stops(9);
        new Step("DR by its own low one", 0, 1).given(6, 0).given(7, 5).rr(29, 6, 7).gives(6, 0).gives(7, 1).done();
        new Step("DR by its own high one, minus", 0, 1).given(6, -1).given(7, -5).rr(29, 6, 6).gives(6, 0).gives(7, 5)
            .done();
    }

    /** "FAULT 9 if V is 0 or that is no int" */
    private static void quotientsWithoutRoom() {
        quotient(0, 0);
        quotient(17, 0);
        quotient(Long.MIN_VALUE, 0);
        quotient(Long.MIN_VALUE, -1);
        quotient(Long.MIN_VALUE, 1);
        quotient(Long.MAX_VALUE, 1);
        quotient(Long.MAX_VALUE, MOST);
        quotient(Long.MIN_VALUE, LEAST);
        for (int v : new int[] {1, 2, 3, MOST}) {
            long above = (1L << 31) * v;
            quotient(above - 1, v);
            quotient(above, v);
            quotient(-above, v);
            quotient(-above - v + 1, v);
            quotient(-above - v, v);
            quotient(above, -v);
            quotient(above + v - 1, -v);
            quotient(above + v, -v);
            quotient(-above + 1, -v);
            quotient(-above, -v);
        }
    }

    /** "R1 even (else FAULT 6)" */
    private static void oddPairs() {
        for (int r = 0; r < 16; r++) {
            Step[] steps = {new Step("MR " + r, 0, 1).given(8, 1).rr(28, r, 8),
                new Step("DR " + r, 0, 1).given(8, 1).rr(29, r, 8),
                new Step("M " + r, 0, 1).given(8, 1).given(FIELD, "00000001").rx(92, r, 0, 0, FIELD),
                new Step("D " + r, 0, 1).given(8, 1).given(FIELD, "00000001").rx(93, r, 0, 0, FIELD)};
            for (int i = 0; i < steps.length; i++) {
                if (r % 2 == 1) {
                    steps[i].stops(6);
                } else if (r != 8) {
                    steps[i].done();
                }
            }
        }
    }

    /** "ST, STH, STC: R1, its low 16, 8 bits, to A2." */
    private static void stores() {
        String before = "c0c1c2c3c4c5c6c7c8c9cacb";
        for (int v : EDGES) {
            new Step("ST", 3, 3).given(1, v).given(FIELD, before).rx(80, 1, 0, 0, FIELD + 4)
                .leaves(FIELD + 4, hex(v)).done();
            new Step("STH", 3, 2).given(1, v).given(FIELD, before).rx(64, 1, 0, 0, FIELD + 6)
                .leaves(FIELD + 6, halfHex(v)).done();
            new Step("STC", 3, 1).given(1, v).given(FIELD, before).rx(66, 1, 0, 0, FIELD + 5)
                .leaves(FIELD + 5, hex(v).substring(6)).done();
        }
    }

    /** "IC: the low 8 bits of R1 are the OCTET at A2." */
    private static void insert() {
        for (int v : EDGES) {
            for (String octet : new String[] {"00", "7f", "80", "ff"}) {
                int due = v - (v & 255) + Integer.parseInt(octet, 16);
                new Step("IC " + octet, 3, 3).given(1, v).given(FIELD + 1, octet).rx(67, 1, 0, 0, FIELD + 1)
                    .gives(1, due).done();
            }
        }
    }

    /** "LA: R1 is A2." Nothing is taken from there. */
    private static void loadAddress() {
        new Step("LA of no octet", 3, 3).rx(65, 1, 0, 0, 1024).gives(1, 1024).done();
        new Step("LA of an odd one", 3, 3).rx(65, 1, 0, 0, 1023).gives(1, 1023).done();
        new Step("LA of itself", 3, 3).given(1, 41).rx(65, 1, 0, 1, 1).gives(1, 42).done();
    }

    /** "goes to A2, V if bit 8, 4, 2, 1 of R1 for CC 0, 1, 2, 3 is 1" */
    private static void conditions() {
        String[] going = {"", "3", "2", "23", "1", "13", "12", "123", "0", "03", "02", "023", "01", "013", "012",
            "0123"};
        for (int mask = 0; mask < 16; mask++) {
            for (int condition = 0; condition <= 3; condition++) {
                boolean goes = going[mask].indexOf('0' + condition) >= 0;
                new Step("BCR " + mask, 3, condition).given(3, 200).rr(7, mask, 3).goes(goes ? 200 : AT + 2).done();
                new Step("BC " + mask, 3, condition).rx(71, mask, 0, 0, 200).goes(goes ? 200 : AT + 4).done();
            }
        }
    }

    /** "(R2 0: nowhere)" */
    private static void nowhere() {
        for (int condition = 0; condition <= 3; condition++) {
            new Step("BCR 15,0", 0, condition).given(0, 200).rr(7, 15, 0).done();
            new Step("BALR 1,0", 0, condition).given(0, 200).rr(5, 1, 0).gives(1, AT + 2).done();
            new Step("BALR 0,0", 0, condition).given(0, 200).rr(5, 0, 0).gives(0, AT + 2).done();
            new Step("BCTR 1,0", 0, condition).given(0, 200).given(1, 9).rr(6, 1, 0).gives(1, 8).done();
            new Step("BCTR 0,0", 0, condition).given(0, 200).rr(6, 0, 0).gives(0, 199).done();
        }
        new Step("BC with B 0 goes to D", 0, 0).given(0, 200).rx(71, 15, 0, 0, 100).goes(100).done();
    }

    /** "R1 is the address behind; then goes there (... V is taken first)" */
    private static void links() {
        new Step("BALR 3,3", 0, 3).given(3, 200).rr(5, 3, 3).gives(3, AT + 2).goes(200).done();
        new Step("BALR 0,3", 0, 3).given(3, 200).rr(5, 0, 3).gives(0, AT + 2).goes(200).done();
        new Step("BAL by B", 0, 3).given(3, 200).rx(69, 3, 0, 3, 8).gives(3, AT + 4).goes(208).done();
        new Step("BAL by X", 0, 3).given(3, 200).rx(69, 3, 3, 0, 8).gives(3, AT + 4).goes(208).done();
        new Step("BAL at the end", 0, 0).at(1020).rx(69, 3, 0, 0, 8).gives(3, 1024).goes(8).done();
        new Step("BALR at the end", 0, 0).at(1022).given(2, 8).rr(5, 3, 2).gives(3, 1024).goes(8).done();
        new Step("BALR at the end, nowhere", 0, 0).at(1022).rr(5, 3, 0).gives(3, 1024).goes(1024).done();
    }

    /** "R1 less 1, goes there if it is not 0 (...; V and A2 are taken first)" */
    private static void counts() {
        for (int v : EDGES) {
            int less = v == LEAST ? MOST : v - 1;
            new Step("BCTR " + v, 3, 3).given(1, v).given(3, 200).rr(6, 1, 3).gives(1, less)
                .goes(v == 1 ? AT + 2 : 200).done();
            new Step("BCT " + v, 3, 3).given(1, v).rx(70, 1, 0, 0, 200).gives(1, less)
                .goes(v == 1 ? AT + 4 : 200).done();
        }
        new Step("BCTR 3,3", 0, 1).given(3, 200).rr(6, 3, 3).gives(3, 199).goes(200).done();
        new Step("BCTR 3,3 of 1", 0, 1).given(3, 1).rr(6, 3, 3).gives(3, 0).done();
        new Step("BCT by B and X", 0, 1).given(3, 100).rx(70, 3, 3, 3, 4).gives(3, 99).goes(204).done();
    }

    private static void index(int first, int by, int limit) {
        int sum = BigInteger.valueOf(first).add(BigInteger.valueOf(by)).intValue();
        boolean above = sum > limit;
        String what = " " + first + " by " + by + " to " + limit;
        for (int code = 134; code <= 135; code++) {
            int next = above == (code == 134) ? 200 : AT + 4;
            new Step(code + what, 3, 3).given(2, first).given(4, by).given(5, limit).rx(code, 2, 4, 0, 200)
                .gives(2, sum).goes(next).done();
            new Step(code + what + " of 14 and 15", 3, 0).given(0, first).given(14, by).given(15, limit)
                .rx(code, 0, 14, 0, 200).gives(0, sum).goes(next).done();
        }
    }

    private static void indexOfOne(int first, int by, int r3) {
        int sum = BigInteger.valueOf(first).add(BigInteger.valueOf(by)).intValue();
        for (int code = 134; code <= 135; code++) {
            new Step(code + " with R3 " + r3, 3, 3).given(r3, by).given((r3 + 1) % 16, MOST).given(2, first)
                .rx(code, 2, r3, 0, 200).gives(2, sum).goes(sum > by == (code == 134) ? 200 : AT + 4).done();
        }
    }

    /** "the odd one of R3 and the next above it: goes to A2 if it is above; not above (both taken before)" */
    private static void indexes() {
        int[] some = {LEAST, -1, 0, 1, MOST};
        for (int first : some) {
            for (int by : some) {
                for (int limit : some) {
                    index(first, by, limit);
                }
                indexOfOne(first, by, 15);
                indexOfOne(first, by, 7);
            }
        }
        index(5, 3, 7);
        index(5, 3, 8);
        index(5, 3, 9);
        for (int code = 134; code <= 135; code++) {
            int above = code == 134 ? 200 : AT + 4;
            new Step(code + ", R1 is the limit", 0, 1).given(4, 1).given(5, 10).rx(code, 5, 4, 0, 200)
                .gives(5, 11).goes(above).done();
            new Step(code + ", R1 is the step", 0, 1).given(4, 6).given(5, 11).rx(code, 4, 4, 0, 200)
                .gives(4, 12).goes(above).done();
            new Step(code + ", R1 is both", 0, 1).given(5, 6).rx(code, 5, 5, 0, 200).gives(5, 12).goes(above).done();
            new Step(code + ", R1 is the base", 0, 1).given(4, 6).given(2, 60).rx(code, 2, 4, 2, 140)
                .gives(2, 66).goes(above).done();
        }
    }

    /** "SRL SLL: R1 by the lowest six bits of A2 (zeros come in)." CC stays. */
    private static void shiftsWithoutSign() {
        for (int v : EDGES) {
            for (int by = 0; by < 64; by++) {
                BigInteger bits = unsigned(v);
                new Step("SRL " + v + " by " + by, 3, by % 4).given(1, v).rx(136, 1, 15, 0, by)
                    .gives(1, bits.shiftRight(by).intValue()).done();
                new Step("SLL " + v + " by " + by, 3, by % 4).given(1, v).rx(137, 1, 15, 0, by)
                    .gives(1, bits.shiftLeft(by).intValue()).done();
            }
        }
    }

    /** "SRA: with its sign; CC as LTR. SLA: ... CC 3, FAULT 8 ..., if a bit that goes out is not like the sign" */
    private static void shiftsWithSign() {
        for (int v : EDGES) {
            for (int by = 0; by < 64; by++) {
                BigInteger right = BigInteger.valueOf(v).shiftRight(by);
                new Step("SRA " + v + " by " + by, 3, 3).given(1, v).rx(138, 1, 15, 0, by)
                    .gives(1, right.intValue()).condition(conditionOf(right)).done();
                shiftLeft(v, by, by % 4);
            }
        }
        for (int mask = 0; mask <= 3; mask++) {
            shiftLeft(1, 30, mask);
            shiftLeft(1, 31, mask);
            shiftLeft(-1, 31, mask);
            shiftLeft(-1, 32, mask);
            shiftLeft(-2, 30, mask);
            shiftLeft(-2, 31, mask);
            shiftLeft(LEAST, 1, mask);
            shiftLeft(0, 63, mask);
        }
    }

    /** Bits that go out are not all like the sign just when the number by 2^by is no int. */
    private static void shiftLeft(int v, int by, int mask) {
        BigInteger exact = BigInteger.valueOf(v).shiftLeft(by);
        int due = exact.intValue() & MOST | v & LEAST;
        Step step = new Step("SLA " + v + " by " + by, mask, 3).given(1, v).rx(139, 1, 15, 0, by).gives(1, due);
        if (exact.bitLength() > 31) {
            step.overflowsIf(mask % 2 == 1, 8);
        } else {
            step.condition(conditionOf(exact)).done();
        }
    }

    /** "the lowest six bits of A2": 64 is 0, and A2 is D and REGISTER B. */
    private static void shiftDistances() {
        for (int code = 136; code <= 139; code++) {
            int once = code % 2 == 0 ? 6 : 24;
            int condition = code < 138 ? 1 : 2;
            for (int a : new int[] {1, 65, 129, 4033, 4095 - 62}) {
                new Step(code + " by " + a, 1, 1).given(1, 12).rx(code, 1, 0, 0, a).gives(1, once)
                    .condition(condition).done();
            }
            for (int b : new int[] {1, -63, LEAST + 1, MOST - 62}) {
                new Step(code + " by register " + b, 1, 1).given(1, 12).given(2, b).rx(code, 1, 0, 2, 0).gives(1, once)
                    .condition(condition).done();
            }
            new Step(code + " by 64", 1, 1).given(1, 12).rx(code, 1, 0, 0, 64).condition(condition).done();
            new Step(code + " by R1 itself", 1, 1).given(1, 1).rx(code, 1, 0, 1, 0).gives(1, code % 2 == 0 ? 0 : 2)
                .condition(code < 138 ? 1 : code == 138 ? 0 : 2).done();
        }
    }

    /** "STM, LM: REGISTERS R1, .. (15, then 0) up to R3, WORDS from A2 on." */
    private static void several() {
        for (int r1 = 0; r1 < 16; r1++) {
            for (int r3 = 0; r3 < 16; r3++) {
                Step store = new Step("STM " + r1 + " " + r3, 3, 3);
                Step load = new Step("LM " + r1 + " " + r3, 3, 3);
                StringBuilder words = new StringBuilder();
                for (int r = 0; r < 16; r++) {
                    store.given(r, -0x01010101 * (r + 1));
                    load.given(r, 7 * r);
                }
                int r = r1;
                int n = 0;
                do {
                    words.append(hex(-0x01010101 * (r + 1)));
                    n++;
                    r = (r + 1) % 16;
                } while (r != (r3 + 1) % 16);
                store.rx(144, r1, r3, 0, FIELD).leaves(FIELD, words.toString()).done();
                load.given(FIELD, words.toString()).rx(152, r1, r3, 0, FIELD);
                for (int i = 0; i < n; i++) {
                    int s = (r1 + i) % 16;
                    load.gives(s, -0x01010101 * (s + 1));
                }
                load.done();
            }
        }
        new Step("LM of its own base", 0, 0).given(2, FIELD).given(FIELD, "000000070000000800000009")
            .rx(152, 1, 3, 2, 0).gives(1, 7).gives(2, 8).gives(3, 9).done();
    }

    /** "FAULT 6: a HALF, WORD, DOUBLE (of STM, LM, too) at no multiple of its size" */
    private static void placesOfOperands() {
        for (int code : new int[] {144, 152}) {
            for (int i = 1; i < 4; i++) {
                new Step(code + " at 4 times n and " + i, 0, 0).rx(code, 2, 4, 0, FIELD + i).stops(6);
            }
        }
        for (int[] s : SIZES) {
            for (int i = 0; i < 8; i++) {
                String what = "code " + s[0] + " at 8 times n and " + i;
                Step step = new Step(what, 3, 2).given(FIELD, "000000000000000c000000000000000c");
                step.rx(s[0], 2, 2, 0, FIELD + i);
                if (i % s[1] != 0) {
                    step.stops(6);
                } else {
                    Check.same(what, Check.thrown(() -> step.machine.run(1)).equals("IllegalArgumentException") ? 1 : 0,
                        0);
                }
            }
        }
    }

    /** "FAULT 5: an OCTET that is taken, stored or looked at is not in MEMORY" */
    private static void operandsNotInMemory() {
        String last = "000000000000001c";
        for (int[] s : SIZES) {
            Step inside = new Step("code " + s[0] + " up to the end", 3, 3).given(1016, last).given(2, 0).given(3, 1);
            inside.rx(s[0], 2, 0, 0, 1024 - s[1]);
            Check.same("code " + s[0] + " up to the end", Check.thrown(() -> inside.machine.run(1)), "none");
            new Step("code " + s[0] + " behind the end", 3, 3).given(1016, last).rx(s[0], 2, 0, 0, 1024).stops(5);
            new Step("code " + s[0] + " far behind", 3, 3).given(3, -8).rx(s[0], 2, 3, 0, 0).stops(5);
        }
        for (int code : new int[] {144, 152}) {
            for (int n = 1; n <= 16; n++) {
                Step inside = new Step(code + " up to the end, " + n, 0, 0).given(14, 77);
                inside.rx(code, 14, (13 + n) % 16, 0, 1024 - 4 * n);
                Check.same(code + " up to the end, " + n, inside.machine.run(1), 1);
                new Step(code + " one behind the end, " + n, 0, 0).given(14, 77).given(1020, "00000009")
                    .rx(code, 14, (13 + n) % 16, 0, 1028 - 4 * n).stops(5);
            }
        }
    }
}
