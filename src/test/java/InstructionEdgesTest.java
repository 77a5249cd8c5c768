/** Promise 10 and "AN INSTRUCTION": for each sentence on places, addresses and faults that names a boundary, a test. */
public final class InstructionEdgesTest {
    private static final int LEAST = Integer.MIN_VALUE;
    private static final int MOST = Integer.MAX_VALUE;
    private static final int ADDRESSES = 1 << 24;
    private static final int FIELD = Step.FIELD;
    private static final int AT = Step.AT;

    public static void main(String[] args) {
        oddNext();
        instructionNotInMemory();
        unknownCodes();
        lengths();
        orderOfTheInstruction();
        baseZeroAndIndexZero();
        largestDistance();
        addressesWrap();
        branchesWrap();
        fieldsDoNotWrap();
        noIndexInRsAndSi();
        oddTarget();
        orderOfOthers();
        exceptionsOfFaults();
        countsToRun();
        runUntilOneHalts();
        haltsAlready();
        whatWasDoneBeforeStays();
        overflowEndsTheRun();
        countedInstructionsAndFaults();
        fiveHundredTwelveCalls();
        Check.end();
    }

    private static DecimalMachine at(int a, String octets) {
        DecimalMachine m = new DecimalMachine();
        Check.put(m, a, octets);
        return m;
    }

    /** "AN INSTRUCTION stands at NEXT (FAULT 6 if that is odd)" */
    private static void oddNext() {
        for (int a : new int[] {1, 3, 511, 1021, 1023, 1025, ADDRESSES - 1}) {
            DecimalMachine m = new DecimalMachine();
            if (a < 1023) {
                m.rr(a, 24, 1, 1);
            }
            m.start(a, 0);
            Check.stopped("NEXT " + a, m, 6);
        }
    }

    /** "FAULT 5: an OCTET that is taken ... is not in MEMORY (of the INSTRUCTION, too" */
    private static void instructionNotInMemory() {
        for (int a : new int[] {1024, 1026, 2048, ADDRESSES / 2, ADDRESSES - 2}) {
            DecimalMachine m = new DecimalMachine();
            m.start(a, 0);
            Check.stopped("NEXT " + a, m, 5);
        }
        new Step("two up to the end", 0, 0).at(1022).rr(24, 1, 1).goes(1024).done();
        new Step("four up to the end", 0, 0).at(1020).rx(65, 1, 0, 0, 9).gives(1, 9).goes(1024).done();
        new Step("six up to the end", 0, 0).at(1018).given(FIELD, "77").ss(210, 0, 0, 513, 0, FIELD)
            .leaves(513, "77").goes(1024).done();
        cutOff(1022, "4110");
        cutOff(1022, "d200");
        cutOff(1020, "d2000200");
    }

    private static void cutOff(int a, String octets) {
        DecimalMachine m = at(a, octets);
        m.start(a, 0);
        Check.stopped("cut off at " + a + ": " + octets, m, 5);
    }

    /** "Others: FAULT 1." */
    private static void unknownCodes() {
        boolean[] known = new boolean[256];
        int[] codes = {5, 6, 7, 10, 16, 17, 18, 19, 20, 21, 22, 23, 24, 25, 26, 27, 28, 29, 30, 31,
            64, 65, 66, 67, 69, 70, 71, 72, 73, 74, 75, 76, 78, 79, 80, 84, 85, 86, 87, 88, 89, 90, 91, 92, 93, 94, 95,
            134, 135, 136, 137, 138, 139, 144, 152, 145, 146, 148, 149, 150, 151,
            209, 210, 211, 212, 213, 214, 215, 220, 242, 243, 248, 249, 250, 251, 252, 253};
        for (int code : codes) {
            known[code] = true;
        }
        for (int code = 0; code <= 255; code++) {
            // An address of 1 and lengths of 16 would be faults 6 and 7 if they counted.
            for (String rest : new String[] {"0000000000", "ff00010001", "11ffffffff"}) {
                DecimalMachine m = at(AT, String.format("%02x", code) + rest);
                m.start(AT, 3);
                if (known[code]) {
                    Check.thrown(() -> m.run(1));
                    Check.same("code " + code + " is known", m.count(6) == 1 ? 1 : 0, 0);
                } else {
                    Check.stopped("code " + code, m, 1);
                }
            }
        }
    }

    /** "2 OCTETS long if that is below 64, 6 from 192 on, else 4." */
    private static void lengths() {
        int[][] edges = {{0, 2}, {63, 2}, {64, 4}, {128, 4}, {191, 4}, {192, 6}, {255, 6}};
        for (int[] edge : edges) {
            String octets = String.format("%02x0000000000", edge[0]).substring(0, 2 * edge[1]);
            DecimalMachine fits = at(1024 - edge[1], octets);
            fits.start(1024 - edge[1], 0);
            if (edge[0] == 64) {
                Check.same("STH of four up to the end", fits.run(1), 1);
            } else {
                Check.stopped("code " + edge[0] + " with just room", fits, 1);
            }
            DecimalMachine cut = at(1026 - edge[1], octets.substring(0, 2 * edge[1] - 4));
            cut.start(1026 - edge[1], 0);
            Check.stopped("code " + edge[0] + " cut off", cut, 5);
        }
    }

    /** "Where several are so: of the INSTRUCTION 6, 5, 1" */
    private static void orderOfTheInstruction() {
        int[][] cases = {{1023, 6}, {1025, 6}, {ADDRESSES - 1, 6}, {1022, 5}, {1020, 5}, {1018, 1}};
        for (int[] c : cases) {
            DecimalMachine m = at(1017, "ffffffffffffff");
            m.start(c[0], 3);
            Check.stopped("an unknown code at " + c[0], m, c[1]);
        }
        DecimalMachine odd = at(511, "ffff");
        odd.start(511, 0);
        Check.stopped("odd and unknown", odd, 6);
        DecimalMachine wrong = new DecimalMachine();
        wrong.start(1023, 0);
        wrong.poke(1023, 1, 92);
        Check.stopped("odd and cut off", wrong, 6);
    }

    /** "D and REGISTER B if B is not 0. D(X,B): also REGISTER X if that is not 0." */
    private static void baseZeroAndIndexZero() {
        for (int x = 0; x < 16; x++) {
            for (int b = 0; b < 16; b++) {
                Step step = new Step("LA with X " + x + ", B " + b, 0, 1);
                int sum = 5;
                for (int r = 0; r < 16; r++) {
                    int v = 100 + r * r;
                    step.given(r, v);
                    sum += (r != 0 && r == x ? v : 0) + (r != 0 && r == b ? v : 0);
                }
                step.rx(65, 0, x, b, 5).gives(0, sum).done();
            }
        }
        new Step("A1 and A2 with B 0", 0, 1).given(0, 9).given(FIELD, "1234").ss(210, 0, 0, FIELD + 1, 0, FIELD)
            .leaves(FIELD + 1, "12").done();
        new Step("B1 and B2", 0, 1).given(3, FIELD).given(4, 500).given(FIELD, "1234").ss(210, 0, 3, 1, 4, 12)
            .leaves(FIELD + 1, "12").done();
        new Step("REGISTER 0, but X 0", 0, 1).given(0, -1).given(FIELD, "00000007").rx(88, 1, 0, 0, FIELD)
            .gives(1, 7).done();
    }

    /** "the low twelve D" */
    private static void largestDistance() {
        new Step("D 4095", 0, 0).rx(65, 1, 0, 0, 4095).gives(1, 4095).done();
        new Step("D 0", 0, 0).given(1, 77).rx(65, 1, 0, 0, 0).gives(1, 0).done();
        new Step("D has no sign", 0, 0).given(2, 1).rx(65, 1, 2, 0, 2048).gives(1, 2049).done();
        new Step("D 4095 less 3071", 0, 0).given(2, -3071).given(1020, "0000a55a").ss(210, 0, 0, FIELD, 2, 4094)
            .leaves(FIELD, "5a").done();
    }

    private static void wraps(String what, int base, int index, int distance, int due) {
        new Step(what, 0, 2).given(3, base).given(4, index).rx(65, 1, 4, 3, distance).gives(1, due).done();
        new Step(what + ", B and X changed", 0, 2).given(3, base).given(4, index).rx(65, 1, 3, 4, distance)
            .gives(1, due).done();
    }

    /** "All addresses are taken modulo 2^24." */
    private static void addressesWrap() {
        wraps("just below 2^24", ADDRESSES - 1, 0, 0, ADDRESSES - 1);
        wraps("2^24", ADDRESSES - 1, 0, 1, 0);
        wraps("-1", -1, 0, 0, ADDRESSES - 1);
        wraps("-1 and 1", -1, 1, 0, 0);
        wraps("least", LEAST, 0, 7, 7);
        wraps("greatest", MOST, 0, 1, 0);
        wraps("greatest twice", MOST, MOST, 2, 0);
        wraps("all", -1, -1, 4095, 4093);
        for (int high : new int[] {ADDRESSES, -ADDRESSES, LEAST, 0x7F000000}) {
            new Step("a word", 0, 0).given(3, high).given(FIELD, "80000001").rx(88, 1, 3, 0, FIELD)
                .gives(1, 0x80000001).done();
            new Step("a half", 0, 0).given(3, high).given(FIELD, "8001").rx(72, 1, 0, 3, FIELD)
                .gives(1, 0xFFFF8001).done();
            new Step("STC", 0, 0).given(3, high).given(1, 0x1234).rx(66, 1, 0, 3, FIELD).leaves(FIELD, "34").done();
            new Step("IC", 0, 0).given(3, high).given(FIELD, "9a").rx(67, 1, 0, 3, FIELD).gives(1, 0x9A).done();
            new Step("CVD", 0, 0).given(3, high).given(1, 5).rx(78, 1, 0, 3, FIELD)
                .leaves(FIELD, "000000000000005c").done();
            new Step("STM", 0, 0).given(3, high).given(1, 5).rx(144, 1, 1, 3, FIELD).leaves(FIELD, "00000005").done();
            new Step("MVI", 0, 0).given(3, high).rx(146, 10, 5, 3, FIELD).leaves(FIELD, "a5").done();
            new Step("MVC", 0, 0).given(3, high).given(FIELD, "0102").ss(210, 1, 3, FIELD + 2, 3, FIELD)
                .leaves(FIELD + 2, "0102").done();
            new Step("ZAP", 0, 0).given(3, high).given(FIELD, "7d").ss(248, 0x10, 3, FIELD + 2, 3, FIELD)
                .leaves(FIELD + 2, "007d").condition(1).done();
        }
        new Step("TR, an entry behind 2^24 - 1", 0, 2).given(3, -5).given(FIELD, "0507")
            .ss(220, 1, 0, FIELD, 3, 0).leaves(FIELD, "9500").done();
    }

    /** The same of where an instruction goes: NEXT is an address, too. */
    private static void branchesWrap() {
        for (int high : new int[] {ADDRESSES, -ADDRESSES, LEAST, 0x7F000000}) {
            int far = high + 200;
            new Step("BCR", 0, 1).given(3, far).rr(7, 15, 3).goes(200).done();
            new Step("BALR", 0, 1).given(3, far).rr(5, 1, 3).gives(1, AT + 2).goes(200).done();
            new Step("BCTR", 0, 1).given(3, far).given(1, 5).rr(6, 1, 3).gives(1, 4).goes(200).done();
            new Step("BC", 0, 1).given(3, high).rx(71, 15, 0, 3, 200).goes(200).done();
            new Step("BAL", 0, 1).given(3, high).rx(69, 1, 3, 0, 200).gives(1, AT + 4).goes(200).done();
            new Step("BCT", 0, 1).given(3, high).given(1, 5).rx(70, 1, 0, 3, 200).gives(1, 4).goes(200).done();
            new Step("BXH", 0, 1).given(3, high).given(6, 1).rx(134, 1, 6, 3, 200).gives(1, 1).goes(200).done();
            new Step("BXLE", 0, 1).given(3, high).rx(135, 1, 6, 3, 200).goes(200).done();
        }
        new Step("BCR to -1", 0, 1).given(3, -1).rr(7, 15, 3).goes(ADDRESSES - 1).done();
        new Step("BC to 2^24 - 2", 0, 1).given(3, -2).rx(71, 15, 0, 3, 0).goes(ADDRESSES - 2).done();
    }

    /** A field that begins below 2^24 and would end behind 0 has octets that are not in MEMORY. */
    private static void fieldsDoNotWrap() {
        new Step("a word at 2^24 - 4", 0, 0).given(3, -4).rx(88, 1, 0, 3, 0).stops(5);
        new Step("LM from 2^24 - 4 on", 0, 0).given(3, -4).rx(152, 1, 2, 3, 0).stops(5);
        new Step("STM from 2^24 - 4 on", 0, 0).given(3, -4).rx(144, 1, 2, 3, 0).stops(5);
        new Step("MVC from 2^24 - 1 on", 0, 0).given(3, -1).ss(210, 1, 0, FIELD, 3, 0).stops(5);
        new Step("MVC to 2^24 - 1", 0, 0).given(3, -1).ss(210, 1, 3, 0, 0, FIELD).stops(5);
        new Step("PACK from 2^24 - 1 on", 0, 0).given(3, -1).ss(242, 0x11, 0, FIELD, 3, 0).stops(5);
        new Step("ZAP from 2^24 - 1 on", 0, 0).given(3, -1).ss(248, 0x11, 0, FIELD, 3, 0).stops(5);
    }

    /** "RS ... D(B)", "SI, four, D(B) I": their low four bits are no X. */
    private static void noIndexInRsAndSi() {
        new Step("SRL", 0, 1).given(1, 256).given(2, 4).rx(136, 1, 2, 0, 1).gives(1, 128).done();
        new Step("STM", 0, 1).given(1, 256).given(2, 4).rx(144, 1, 2, 0, FIELD).leaves(FIELD, "0000010000000004")
            .done();
        new Step("BXLE", 0, 1).given(4, 8).rx(135, 1, 4, 0, 200).gives(1, 8).goes(AT + 4).done();
        new Step("MVI", 0, 1).given(2, 4).rx(146, 1, 2, 0, FIELD).leaves(FIELD, "12").done();
        new Step("CLI", 0, 1).given(2, 4).given(FIELD, "12").rx(149, 1, 2, 0, FIELD).condition(0).done();
    }

    /** "where one goes is odd (found when that is NEXT)" */
    private static void oddTarget() {
        Step step = new Step("BC to 513", 0, 1).rx(71, 15, 0, 0, 513).goes(513);
        step.done();
        Check.stopped("at 513", step.machine, 6);
        Step far = new Step("BC to 1025", 0, 1).rx(71, 15, 0, 0, 1025).goes(1025);
        far.done();
        Check.stopped("at 1025", far.machine, 6);
        Step outside = new Step("BC to 1024", 0, 1).rx(71, 15, 0, 0, 1024).goes(1024);
        outside.done();
        Check.stopped("at 1024", outside.machine, 5);
        new Step("BALR to 3", 0, 1).given(2, 3).rr(5, 1, 2).gives(1, AT + 2).goes(3).done();
        new Step("BCTR to 3", 0, 1).given(2, 3).given(1, 9).rr(6, 1, 2).gives(1, 8).goes(3).done();
        new Step("BXH to 3", 0, 1).given(4, 1).given(5, 0).rx(134, 1, 4, 0, 3).gives(1, 1).goes(3).done();
        new Step("BC that does not go to 513", 0, 1).rx(71, 0, 0, 0, 513).done();
    }

    /** "then 6, 5, 7, 9, 11." */
    private static void orderOfOthers() {
        new Step("6 before 5: a word", 0, 0).rx(88, 1, 0, 0, 1022).stops(6);
        new Step("6 before 5: a word far outside", 0, 0).rx(80, 1, 0, 0, 4095).stops(6);
        new Step("6 before 5: a half", 0, 0).rx(72, 1, 0, 0, 1023).stops(6);
        new Step("6 before 5: a double", 0, 0).rx(79, 1, 0, 0, 1020).stops(6);
        new Step("6 before 5: STM", 0, 0).rx(144, 1, 2, 0, 1022).stops(6);
        new Step("6 before 5: M", 0, 0).rx(92, 1, 0, 0, 1024).stops(6);
        new Step("6 before 5: lengths", 0, 0).ss(250, 0x80, 0, 1020, 0, FIELD).stops(6);
        new Step("6 before 5: MP", 0, 0).ss(252, 0x11, 0, 1023, 0, FIELD).stops(6);
        new Step("6 before 7: lengths", 0, 0).ss(250, 0x80, 0, FIELD, 0, FIELD).stops(6);
        new Step("6 before 7: DP", 0, 0).ss(253, 0x11, 0, FIELD, 0, FIELD).stops(6);
        new Step("6 before 7: CVB", 0, 0).rx(79, 1, 0, 0, FIELD + 4).stops(6);
        new Step("6 before 9: D", 0, 0).rx(93, 1, 0, 0, FIELD).stops(6);
        new Step("6 before 9: D at no word's place", 0, 0).rx(93, 2, 0, 0, FIELD + 2).stops(6);
        new Step("6 before 9: DR", 0, 0).rr(29, 1, 2).stops(6);
        new Step("6 before 11", 0, 0).given(FIELD, "001c0c").ss(253, 0x11, 0, FIELD, 0, FIELD + 1).stops(6);
        new Step("5 before 7: field 2 outside, field 1 wrong", 0, 0).ss(250, 0x11, 0, FIELD, 0, 1023).stops(5);
        new Step("5 before 7: field 1 outside, field 2 wrong", 0, 0).ss(250, 0x11, 0, 1023, 0, FIELD).stops(5);
        new Step("5 before 9: D", 0, 0).rx(93, 2, 0, 0, 1024).stops(5);
        new Step("5 before 11: DP", 0, 0).given(FIELD, "000c").ss(253, 0x10, 0, 1023, 0, FIELD).stops(5);
        new Step("7 before 9: CVB", 0, 0).given(FIELD, "9999999999999a9c").rx(79, 1, 0, 0, FIELD).stops(7);
        new Step("7 before 9: CVB, its sign", 0, 0).given(FIELD, "9999999999999999").rx(79, 1, 0, 0, FIELD).stops(7);
        new Step("7 before 11: field 1", 0, 0).given(FIELD, "0a1c0c").ss(253, 0x10, 0, FIELD, 0, FIELD + 2).stops(7);
        new Step("7 before 11: field 2", 0, 0).given(FIELD, "999c01").ss(253, 0x10, 0, FIELD, 0, FIELD + 2).stops(7);
    }

    private static void fault(int fault, String exception, int mask, String octets) {
        DecimalMachine m = at(0, octets);
        m.set(2, MOST);
        m.poke(FIELD, 2, 0x999C);
        m.poke(FIELD + 2, 1, 0x0C);
        m.start(0, mask);
        Check.same("FAULT " + fault, Check.thrown(() -> m.run(1)), exception);
        Check.same("FAULT " + fault, m.count(6), fault);
    }

    /** "IllegalArgumentException: ... 1, 6, 7. IndexOutOfBoundsException: FAULT 5. ArithmeticException: 8 to 11." */
    private static void exceptionsOfFaults() {
        fault(1, "IllegalArgumentException", 0, "0000");
        fault(5, "IndexOutOfBoundsException", 0, "58100400");
        fault(6, "IllegalArgumentException", 0, "58100202");
        fault(7, "IllegalArgumentException", 0, "fa0002040204");
        fault(8, "ArithmeticException", 1, "1a22");
        fault(9, "ArithmeticException", 0, "1d24");
        fault(10, "ArithmeticException", 2, "fa1102000200");
        fault(11, "ArithmeticException", 0, "fd1002000202");
    }

    /** Twelve instructions, the last of them SVC 7. */
    private static DecimalMachine twelve() {
        DecimalMachine m = new DecimalMachine();
        for (int i = 0; i < 11; i++) {
            m.rr(2 * i, 6, 1, 0);
        }
        m.rr(22, 10, 0, 7);
        return m;
    }

    /** "Up to n (1..200) INSTRUCTIONS ... IllegalArgumentException: n" */
    private static void countsToRun() {
        for (int n : new int[] {0, 201, -1, 1000, LEAST, LEAST + 1, MOST}) {
            DecimalMachine m = twelve();
            Check.illegal("run " + n, m, () -> m.run(n));
        }
        for (int n : new int[] {1, 2, 199, 200}) {
            DecimalMachine m = new DecimalMachine();
            m.rx(0, 70, 1, 0, 0, 0);
            Check.same("run " + n, m.run(n), n);
            Check.same("run " + n + ": done", m.count(4), n);
            Check.same("run " + n + ": each once", m.register(1), -n);
        }
    }

    /** "until one HALTS: how many were done" */
    private static void runUntilOneHalts() {
        for (int n : new int[] {1, 10, 11, 12, 13, 200}) {
            DecimalMachine m = twelve();
            int due = Math.min(n, 12);
            Check.same("run " + n, m.run(n), due);
            Check.same("run " + n + ": NEXT", m.count(0), 2 * due);
            Check.same("run " + n + ": HALT", m.count(3), due == 12 ? 7 : -1);
            Check.same("run " + n + ": done", m.count(4), due);
            Check.same("run " + n + ": register", m.register(1), -Math.min(n, 11));
        }
        for (int i : new int[] {0, 1, 15, 16, 127, 128, 255}) {
            new Step("SVC " + i, 3, 3).rr(10, i >> 4, i & 15).halts(i).done();
        }
    }

    /** "IllegalStateException: it HALTS already." */
    private static void haltsAlready() {
        for (int n : new int[] {1, 200, 0, 201, -1}) {
            DecimalMachine m = twelve();
            m.run(200);
            Check.refused("run " + n, m, "IllegalStateException", () -> m.run(n));
        }
        DecimalMachine zero = new DecimalMachine();
        zero.rr(0, 10, 0, 0);
        zero.run(1);
        Check.refused("halted with 0", zero, "IllegalStateException", () -> zero.run(1));
    }

    /** "(What was done before stays.)" "Nothing is done then ..., NEXT stays at it" */
    private static void whatWasDoneBeforeStays() {
        DecimalMachine m = twelve();
        m.rr(10, 28, 1, 2);
        Check.same("run 200", Check.thrown(() -> m.run(200)), "IllegalArgumentException");
        Check.same("five were done", m.register(1), -5);
        Check.same("count of done", m.count(4), 5);
        Check.same("NEXT", m.count(0), 10);
        Check.same("faults", m.count(5), 1);
        Check.stopped("again", m, 6);
        m.rr(10, 6, 1, 0);
        Check.same("mended, it goes on", m.run(200), 7);
        Check.same("all were done", m.register(1), -11);
        Check.same("the latest FAULT stays", m.count(6), 6);
    }

    /** "(8, 10: all is), NEXT stays at it (8, 10: goes on)" */
    private static void overflowEndsTheRun() {
        DecimalMachine m = twelve();
        m.rr(10, 26, 2, 2);
        m.set(2, LEAST);
        m.start(0, 1);
        Check.same("run 200", Check.thrown(() -> m.run(200)), "ArithmeticException");
        Check.same("the sum is done", m.register(2), 0);
        Check.same("those behind are not", m.register(1), -5);
        Check.same("CC", m.count(1), 3);
        Check.same("count of done", m.count(4), 6);
        Check.same("NEXT", m.count(0), 12);
        Check.same("it goes on", m.run(200), 6);
        Check.same("done in the end", m.count(4), 12);
        Check.same("faults in the end", m.count(5), 1);
        Check.same("latest in the end", m.count(6), 8);
        DecimalMachine last = new DecimalMachine();
        last.set(2, LEAST);
        last.rr(0, 16, 2, 2);
        last.start(0, 1);
        Check.same("the only one", Check.thrown(() -> last.run(1)), "ArithmeticException");
        Check.same("the only one is done", last.count(4), 1);
    }

    /** "4: INSTRUCTIONS done so far (8, 10, too); 5: FAULTS so far; 6: the latest FAULT, 0 if none." */
    private static void countedInstructionsAndFaults() {
        DecimalMachine m = new DecimalMachine();
        m.set(2, MOST);
        m.poke(FIELD, 1, 0x9C);
        int[][] due = {{8, 1, 1}, {10, 2, 2}, {1, 2, 3}, {5, 2, 4}, {9, 2, 5}, {0, 3, 5}, {0, 4, 5}};
        m.rr(0, 26, 2, 2);
        m.ss(2, 250, 0, 0, FIELD, 0, FIELD);
        m.start(0, 3);
        int latest = 0;
        for (int i = 0; i < due.length; i++) {
            if (i == 3) {
                m.rx(8, 88, 1, 0, 0, 1024);
            } else if (i == 4) {
                m.rr(8, 29, 4, 6);
            } else if (i == 5) {
                m.rr(8, 24, 4, 6);
                m.rr(10, 10, 0, 0);
            }
            latest = due[i][0] == 0 ? latest : due[i][0];
            Check.thrown(() -> m.run(1));
            Check.same("done after " + i, m.count(4), due[i][1]);
            Check.same("faults after " + i, m.count(5), due[i][2]);
            Check.same("latest after " + i, m.count(6), latest);
        }
        Check.thrown(() -> m.run(1));
        m.start(0, 0);
        Check.same("start leaves what was done", m.count(4), 4);
        Check.same("start leaves faults", m.count(5), 5);
        Check.same("start leaves the latest", m.count(6), 9);
    }

    /** "An object is used for at most 512 calls": up to the last of them all is counted. */
    private static void fiveHundredTwelveCalls() {
        DecimalMachine busy = new DecimalMachine();
        busy.rx(0, 70, 1, 0, 0, 0);
        for (int i = 0; i < 509; i++) {
            busy.run(200);
        }
        Check.same("done in 509 runs", busy.count(4), 101800);
        Check.same("the last call", busy.register(1), -101800);
        DecimalMachine wrong = new DecimalMachine();
        for (int i = 0; i < 510; i++) {
            Check.thrown(() -> wrong.run(200));
        }
        Check.same("faults of 510 runs", wrong.count(5), 510);
        Check.same("nothing was done", wrong.count(4), 0);
    }
}
