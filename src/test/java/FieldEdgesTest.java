import java.util.Arrays;

/** "WHAT THEY DO", SI and SS octet by octet: for each sentence that names a boundary, a test of its own. */
public final class FieldEdgesTest {
    private static final int FIELD = Step.FIELD;
    private static final int MVN = 209;
    private static final int MVC = 210;
    private static final int MVZ = 211;
    private static final int NC = 212;
    private static final int CLC = 213;
    private static final int OC = 214;
    private static final int XC = 215;
    private static final int TR = 220;
    private static final int[] SOME = {0x00, 0x01, 0x0F, 0x10, 0x55, 0x7F, 0x80, 0xAA, 0xF0, 0xFE, 0xFF};
    private static final int[] FIELD_CODES = {MVN, MVC, MVZ, NC, CLC, OC, XC};

    public static void main(String[] args) {
        testUnderMask();
        moveImmediate();
        bitsImmediate();
        compareImmediate();
        immediatesNotInMemory();
        oneOctetAndAll();
        eachOctetOfTwoFields();
        oneAfterTheOther();
        conditionOfBits();
        firstThatIsNotAlike();
        translate();
        translateItsOwnTable();
        translateOutside();
        fieldsUpToTheEnds();
        fieldsNotInMemory();
        Check.end();
    }

    private static String hex(int octet) {
        return String.format("%02x", octet);
    }

    private static Step immediate(String what, int code, int octet, int i, int condition) {
        return new Step(what + " " + octet + " " + i, 3, condition).given(FIELD, "5a" + hex(octet) + "5a")
            .rx(code, i >> 4, i & 15, 0, FIELD + 1);
    }

    /** "TM: CC 0 if all bits of the OCTET that are in I are 0 (or I is), 3 if all are 1, else 1." */
    private static void testUnderMask() {
        for (int octet : SOME) {
            for (int i : SOME) {
                int ones = 0;
                int zeros = 0;
                for (int bit = 1; bit < 256; bit *= 2) {
                    if (i / bit % 2 == 1) {
                        ones += octet / bit % 2;
                        zeros += 1 - octet / bit % 2;
                    }
                }
                immediate("TM", 145, octet, i, 2).condition(ones == 0 ? 0 : zeros == 0 ? 3 : 1).done();
            }
        }
    }

    /** "MVI: the OCTET is I" and CC stays. */
    private static void moveImmediate() {
        for (int i : SOME) {
            for (int condition = 0; condition <= 3; condition++) {
                immediate("MVI", 146, 0x3C, i, condition).leaves(FIELD + 1, hex(i)).done();
            }
        }
    }

    /** "NI, OI, XI: with I, CC as N." */
    private static void bitsImmediate() {
        for (int octet : SOME) {
            for (int i : SOME) {
                int[][] due = {{148, octet & i}, {150, octet | i}, {151, octet ^ i}};
                for (int[] d : due) {
                    immediate("code " + d[0], d[0], octet, i, 3).leaves(FIELD + 1, hex(d[1]))
                        .condition(d[1] == 0 ? 0 : 1).done();
                }
            }
        }
    }

    /** "CLI: the OCTET against I, without signs: CC as CL." */
    private static void compareImmediate() {
        for (int octet : SOME) {
            for (int i : SOME) {
                immediate("CLI", 149, octet, i, 3).condition(octet == i ? 0 : octet < i ? 1 : 2).done();
            }
        }
    }

    private static void immediatesNotInMemory() {
        for (int code : new int[] {145, 146, 148, 149, 150, 151}) {
            new Step(code + " at 1024", 0, 2).rx(code, 0, 0, 0, 1024).stops(5);
            new Step(code + " at 2^24 - 1", 0, 2).given(1, -1).rx(code, 0, 0, 1, 0).stops(5);
            Step first = new Step(code + " at 0", 0, 2).rx(code, 0, 1, 0, 0);
            Check.same(code + " at 0", first.machine.run(1), 1);
            Step last = new Step(code + " at 1023", 0, 2).rx(code, 0, 1, 0, 1023);
            Check.same(code + " at 1023", last.machine.run(1), 1);
        }
    }

    /** "A field has so many OCTETS and one more": L of 0 is one octet, L of 255 is 256. */
    private static void oneOctetAndAll() {
        String some = "112233445566";
        new Step("L 0", 0, 2).given(FIELD, some).ss(MVC, 0, 0, FIELD, 0, FIELD + 3).leaves(FIELD, "44").done();
        new Step("L 1", 0, 2).given(FIELD, some).ss(MVC, 1, 0, FIELD, 0, FIELD + 3).leaves(FIELD, "4455").done();
        char[] sevens = new char[512];
        Arrays.fill(sevens, '7');
        new Step("L 255", 0, 2).given(600, "77").ss(MVC, 255, 0, 601, 0, 600).leaves(601, new String(sevens))
            .leaves(857, "00").done();
        new Step("L 255 of XC", 0, 2).given(855, "010203").ss(XC, 255, 0, 600, 0, 600).leaves(855, "00")
            .condition(0).done();
        new Step("L 255 of CLC", 0, 3).given(855, "01").ss(CLC, 255, 0, 600, 0, 300).condition(2).done();
        new Step("L 254 of CLC", 0, 3).given(855, "01").ss(CLC, 254, 0, 600, 0, 300).condition(0).done();
        new Step("L 255 of OC", 0, 3).given(855, "01").ss(OC, 255, 0, 300, 0, 600).leaves(555, "01")
            .condition(1).done();
        new Step("L 255 of TR", 0, 3).given(100, "0009").given(555, "0101").ss(TR, 255, 0, 300, 0, 100)
            .leaves(300, "00").leaves(555, "0901").done();
    }

    private static int joined(int code, int old, int other) {
        switch (code) {
            case MVN:
                return old / 16 * 16 + other % 16;
            case MVC:
                return other;
            case MVZ:
                return other / 16 * 16 + old % 16;
            case NC:
                return old & other;
            case OC:
                return old | other;
            case XC:
                return old ^ other;
            default:
                return old;
        }
    }

    /** "MVN, MVZ: only the low, high four bits of each. NC, OC, XC: bits of both to A1, OCTET by OCTET" */
    private static void eachOctetOfTwoFields() {
        for (int code : FIELD_CODES) {
            for (int old : SOME) {
                for (int other : SOME) {
                    int due = joined(code, old, other);
                    Step step = new Step("code " + code + " " + old + " " + other, 3, 3)
                        .given(FIELD - 1, "3c" + hex(old) + "c3").given(FIELD + 7, "96" + hex(other) + "69")
                        .ss(code, 0, 0, FIELD, 0, FIELD + 8)
                        .leaves(FIELD, hex(due));
                    if (code == CLC) {
                        step.condition(old == other ? 0 : old < other ? 1 : 2);
                    } else if (code >= NC) {
                        step.condition(due == 0 ? 0 : 1);
                    }
                    step.done();
                }
            }
        }
    }

    /** "one after the other, the first one first": fields that overlap. */
    private static void oneAfterTheOther() {
        String before = "123456789abcdef0";
        for (int code : new int[] {MVN, MVC, MVZ, NC, OC, XC}) {
            for (int shift = -3; shift <= 3; shift++) {
                int[] octets = new int[8];
                for (int i = 0; i < 8; i++) {
                    octets[i] = Integer.parseInt(before.substring(2 * i, 2 * i + 2), 16);
                }
                int all = 0;
                for (int i = 0; i < 4; i++) {
                    int place = Math.max(0, shift) + i;
                    octets[place] = joined(code, octets[place], octets[place - shift]);
                    all |= octets[place];
                }
                StringBuilder after = new StringBuilder();
                for (int octet : octets) {
                    after.append(hex(octet));
                }
                int a1 = FIELD + Math.max(0, shift);
                Step step = new Step("code " + code + " by " + shift, 3, 2).given(FIELD, before)
                    .ss(code, 3, 0, a1, 0, a1 - shift).leaves(FIELD, after.toString());
                step.condition(code < NC ? 2 : all == 0 ? 0 : 1).done();
            }
        }
    }

    /** "CC 0 if all are 0": one bit in the first or in the last octet is enough. */
    private static void conditionOfBits() {
        for (int code : new int[] {NC, OC, XC}) {
            String other = code == NC ? "ffffffff" : "00000000";
            for (String field : new String[] {"00000000", "80000000", "00000001", "00010000", "ffffffff"}) {
                new Step("code " + code + " " + field, 3, 3).given(FIELD, field).given(FIELD + 8, other)
                    .ss(code, 3, 0, FIELD, 0, FIELD + 8).condition(field.equals("00000000") ? 0 : 1).done();
            }
        }
    }

    /** "CLC: as CL, the first OCTET that is not alike." */
    private static void firstThatIsNotAlike() {
        String[][] pairs = {{"000000", "000000"}, {"000000", "000001"}, {"0000ff", "00007f"}, {"00ff00", "0100ff"},
            {"7fffff", "800000"}, {"ff0000", "00ffff"}, {"010200", "0101ff"}, {"0101ff", "010200"}};
        for (String[] pair : pairs) {
            int comparison = pair[0].compareTo(pair[1]);
            new Step("CLC " + pair[0] + " " + pair[1], 3, 3).given(FIELD, pair[0]).given(FIELD + 8, pair[1])
                .ss(CLC, 2, 0, FIELD, 0, FIELD + 8).condition(comparison == 0 ? 0 : comparison < 0 ? 1 : 2).done();
        }
        new Step("CLC, unlike behind the field", 3, 3).given(FIELD, "0102").given(FIELD + 8, "0103")
            .ss(CLC, 0, 0, FIELD, 0, FIELD + 8).condition(0).done();
        new Step("CLC, unlike before the field", 3, 3).given(FIELD, "0502").given(FIELD + 8, "0602")
            .ss(CLC, 0, 0, FIELD + 1, 0, FIELD + 9).condition(0).done();
        new Step("CLC with itself", 3, 3).given(FIELD, "0102").ss(CLC, 1, 0, FIELD, 0, FIELD).condition(0).done();
    }

    /** "TR: each OCTET at A1 is the one at A2 + itself." */
    private static void translate() {
        new Step("TR", 3, 3).given(FIELD, "00017f80fffe03").given(700, "a0a1").given(827, "b7b8").given(954, "cece")
            .ss(TR, 5, 0, FIELD, 0, 700).leaves(FIELD, "a0a1b7b8cece03").done();
        new Step("TR by the highest of 255", 3, 0).given(FIELD, "ff").given(1023, "5b").ss(TR, 0, 0, FIELD, 0, 768)
            .leaves(FIELD, "5b").done();
        for (int condition = 0; condition <= 3; condition++) {
            new Step("TR leaves CC", 3, condition).given(FIELD, "01").ss(TR, 0, 0, FIELD, 0, 700).leaves(FIELD, "00")
                .done();
        }
    }

    /** The octets are changed from the left, and a table that overlaps is read as it is then. */
    private static void translateItsOwnTable() {
        new Step("TR, the first of it is changed before it is taken", 0, 0).given(FIELD, "02000777")
            .ss(TR, 1, 0, FIELD, 0, FIELD).leaves(FIELD, "0707").done();
        new Step("TR, one is taken before it is changed", 0, 0).given(FIELD, "01020909")
            .ss(TR, 2, 0, FIELD, 0, FIELD).leaves(FIELD, "020900").done();
    }

    /** "FAULT 5: an OCTET that is taken ... is not in MEMORY": of the table those that are taken. */
    private static void translateOutside() {
        new Step("TR up to the end", 0, 1).given(FIELD, "0003").given(1020, "aabbccdd").ss(TR, 1, 0, FIELD, 0, 1020)
            .leaves(FIELD, "aadd").done();
        new Step("TR, the last entry behind it", 0, 1).given(FIELD, "000004").given(1020, "aabbccdd")
            .ss(TR, 2, 0, FIELD, 0, 1020).stops(5);
        new Step("TR, the first entry behind it", 0, 1).given(FIELD, "040000").given(1020, "aabbccdd")
            .ss(TR, 2, 0, FIELD, 0, 1020).stops(5);
        new Step("TR, the entry 255 behind it", 0, 1).given(FIELD, "ff").ss(TR, 0, 0, FIELD, 0, 769).stops(5);
        new Step("TR, a table outside", 0, 1).given(FIELD, "00").ss(TR, 0, 0, FIELD, 0, 1024).stops(5);
        new Step("TR, a table outside, its entry inside", 0, 1).given(1, -4).given(FIELD, "04")
            .ss(TR, 0, 0, FIELD, 1, 0).leaves(FIELD, "95").done();
        new Step("TR, a table outside, its entry too", 0, 1).given(1, -4).given(FIELD, "03")
            .ss(TR, 0, 0, FIELD, 1, 0).stops(5);
        new Step("TR, field 1 behind the end", 0, 1).ss(TR, 1, 0, 1023, 0, FIELD).stops(5);
        new Step("TR, field 1 up to the end", 0, 1).given(FIELD, "5a").ss(TR, 1, 0, 1022, 0, FIELD)
            .leaves(1022, "5a5a").done();
    }

    private static void fieldsUpToTheEnds() {
        for (int n : new int[] {1, 2, 256}) {
            for (int code : FIELD_CODES) {
                Step first = new Step(code + ", field 1 up to the end", 0, 0).ss(code, n - 1, 0, 1024 - n, 0, 300);
                Check.same(code + ", field 1 of " + n + " up to the end", first.machine.run(1), 1);
                Step second = new Step(code + ", field 2 up to the end", 0, 0).ss(code, n - 1, 0, 300, 0, 1024 - n);
                Check.same(code + ", field 2 of " + n + " up to the end", second.machine.run(1), 1);
                Step start = new Step(code + ", from 0 on", 0, 0).ss(code, n - 1, 0, 0, 0, 0);
                Check.same(code + ", fields of " + n + " from 0 on", start.machine.run(1), 1);
            }
        }
    }

    /** "(...; of fields all OCTETS are)": CLC, too, though the first are not alike. */
    private static void fieldsNotInMemory() {
        for (int n : new int[] {1, 2, 3, 256}) {
            for (int code : FIELD_CODES) {
                String what = "code " + code + ", " + n;
                new Step(what + ": field 1 one behind", 0, 2).given(1022, "ffff").ss(code, n - 1, 0, 1025 - n, 0, 300)
                    .stops(5);
                new Step(what + ": field 2 one behind", 0, 2).given(1022, "ffff").ss(code, n - 1, 0, 300, 0, 1025 - n)
                    .stops(5);
                new Step(what + ": field 1 before 0", 0, 2).given(1, -1).ss(code, n - 1, 1, 0, 0, 300).stops(5);
                new Step(what + ": field 2 before 0", 0, 2).given(1, -1).ss(code, n - 1, 0, 300, 1, 0).stops(5);
            }
        }
        new Step("CLC, unlike at once", 0, 2).given(FIELD, "01").given(1023, "02").ss(CLC, 1, 0, FIELD, 0, 1023)
            .stops(5);
    }
}
