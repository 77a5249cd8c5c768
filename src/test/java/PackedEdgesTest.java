import java.math.BigInteger;
import java.util.ArrayList;
import java.util.List;

/** "WHAT THEY DO", packed decimals: for each sentence that names a boundary, a test of its own. */
public final class PackedEdgesTest {
    private static final int FIELD = Step.FIELD;
    private static final int SECOND = FIELD + 24;
    private static final int ZAP = 248;
    private static final int CP = 249;
    private static final int AP = 250;
    private static final int SP = 251;
    private static final int MP = 252;
    private static final int DP = 253;

    public static void main(String[] args) {
        toBinary();
        toBinaryWrong();
        toDecimal();
        pack();
        unpack();
        formsThatOverlap();
        formsNotInMemory();
        signs();
        wrongSigns();
        wrongDigits();
        nothingOfFieldOneIsLookedAt();
        moreThanEight();
        sumsAndComparisons();
        noRoom();
        zeroIsPlus();
        products();
        tooFewZeros();
        secondTooLong();
        quotients();
        noRoomForTheQuotient();
        fieldsThatOverlap();
        fieldsUpToTheEnds();
        fieldsNotInMemory();
        Check.end();
    }

    private static BigInteger tenTo(int n) {
        return BigInteger.TEN.pow(n);
    }

    /** The field of n octets with the last digits of a number, and this sign. */
    private static String field(int n, BigInteger number, char sign) {
        String digits = tenTo(2 * n - 1).add(number.abs().mod(tenTo(2 * n - 1))).toString();
        return digits.substring(1) + sign;
    }

    private static boolean isMinus(String field) {
        char sign = field.charAt(field.length() - 1);
        return sign == 'b' || sign == 'd';
    }

    private static BigInteger number(String field) {
        BigInteger digits = new BigInteger(field.substring(0, field.length() - 1));
        return isMinus(field) ? digits.negate() : digits;
    }

    private static boolean hasRoom(int n, BigInteger number) {
        return number.abs().compareTo(tenTo(2 * n - 1)) < 0;
    }

    /** The least, the greatest and some between, of each sign. */
    private static List<String> fields(int n) {
        List<String> fields = new ArrayList<>();
        BigInteger nines = tenTo(2 * n - 1).subtract(BigInteger.ONE);
        BigInteger[] numbers = {BigInteger.ZERO, BigInteger.ONE, BigInteger.TEN, nines, tenTo(2 * n - 2), tenTo(n),
            new BigInteger("123456789012345"), BigInteger.valueOf(5)};
        for (BigInteger number : numbers) {
            fields.add(field(n, number, 'c'));
            fields.add(field(n, number, 'd'));
        }
        return fields;
    }

    /** The octets round both fields are no zeros and no digits: none of them may be looked at. */
    private static Step two(String what, int code, String first, String second, int mask, int condition) {
        int n1 = first.length() / 2;
        int n2 = second.length() / 2;
        return new Step(what + " " + first + " " + second, mask, condition)
            .given(FIELD - 2, "eeff" + first + "feef").given(SECOND - 2, "eeff" + second + "feef")
            .ss(code, (n1 - 1) * 16 + n2 - 1, 0, FIELD, 0, SECOND);
    }

    private static int conditionOf(int comparison) {
        return comparison == 0 ? 0 : comparison < 0 ? 1 : 2;
    }

    private static Step toBinary(String octets, int condition) {
        return new Step("CVB " + octets, 3, condition).given(1, 0x55555555).given(FIELD - 1, "ff" + octets + "ff")
            .rx(79, 1, 0, 0, FIELD);
    }

    /** "CVB: the packed DOUBLE at A2 to R1 (...; FAULT 9 if it is no int)" */
    private static void toBinary() {
        String[] signs = {"a", "b", "c", "d", "e", "f"};
        for (int i = 0; i < signs.length; i++) {
            boolean minus = i == 1 || i == 3;
            toBinary("000000000000000" + signs[i], 3).gives(1, 0).done();
            toBinary("000000000000001" + signs[i], 0).gives(1, minus ? -1 : 1).done();
            toBinary("000002147483647" + signs[i], 1).gives(1, minus ? -Integer.MAX_VALUE : Integer.MAX_VALUE).done();
            if (minus) {
                toBinary("000002147483648" + signs[i], 2).gives(1, Integer.MIN_VALUE).done();
            } else {
                toBinary("000002147483648" + signs[i], 2).stops(9);
            }
            toBinary("000002147483649" + signs[i], 2).stops(9);
            toBinary("000004294967296" + signs[i], 2).stops(9);
            toBinary("999999999999999" + signs[i], 2).stops(9);
        }
    }

    /** "(FAULT 7 ..." of CVB. */
    private static void toBinaryWrong() {
        for (int place = 0; place < 16; place++) {
            for (int wrong : place == 15 ? new int[] {0, 1, 9} : new int[] {10, 12, 15}) {
                StringBuilder octets = new StringBuilder("000000000012345c");
                octets.setCharAt(place, Character.forDigit(wrong, 16));
                toBinary(octets.toString(), 1).stops(7);
            }
        }
    }

    /** "CVD: R1 to a packed DOUBLE there." */
    private static void toDecimal() {
        int[] values = {0, 1, -1, 9, 10, -10, 999999999, 1000000000, Integer.MAX_VALUE, Integer.MIN_VALUE,
            Integer.MIN_VALUE + 1};
        for (int v : values) {
            String due = field(8, BigInteger.valueOf(v), v < 0 ? 'd' : 'c');
            new Step("CVD " + v, 3, 3).given(1, v).given(FIELD - 1, "ffffffffffffffffffff").rx(78, 1, 0, 0, FIELD)
                .leaves(FIELD, due).done();
        }
    }

    /** The halves that PACK puts from the right, the lost ones left out, the missing ones 0. */
    private static String packed(String octets, int n) {
        int last = octets.length() - 2;
        StringBuilder halves = new StringBuilder();
        halves.append(octets.charAt(last)).append(octets.charAt(last + 1));
        for (int i = last - 2; i >= 0; i -= 2) {
            halves.append(octets.charAt(i + 1));
        }
        halves.append("0".repeat(32));
        halves.setLength(2 * n);
        return halves.reverse().toString();
    }

    private static String unpacked(String octets, int n) {
        int last = octets.length() - 2;
        StringBuilder halves = new StringBuilder();
        halves.append(octets.charAt(last)).append(octets.charAt(last + 1));
        for (int i = last - 1; i >= 0; i--) {
            halves.append(octets.charAt(i)).append('f');
        }
        halves.append("0f".repeat(32));
        halves.setLength(2 * n);
        return halves.reverse().toString();
    }

    /** "(zeros fill it; what is too much is lost)" */
    private static void pack() {
        String source = "f1e2d3c4b5a69788796a5b4c3d2e1f03";
        for (int n1 = 1; n1 <= 16; n1++) {
            for (int n2 = 1; n2 <= 16; n2++) {
                String second = source.substring(32 - 2 * n2);
                two("PACK", 242, "ff".repeat(n1), second, 3, n1 % 4).leaves(FIELD, packed(second, n1)).done();
            }
        }
        two("PACK", 242, "ffffff", "f1f2f3f4c5", 3, 3).leaves(FIELD, "12345c").done();
        two("PACK", 242, "ffff", "abcdef", 3, 3).leaves(FIELD, "bdfe").done();
    }

    /** "with 15 as the high half (15 0 fills)" */
    private static void unpack() {
        String source = "f1e2d3c4b5a69788796a5b4c3d2e1f03";
        for (int n1 = 1; n1 <= 16; n1++) {
            for (int n2 = 1; n2 <= 16; n2++) {
                String second = source.substring(32 - 2 * n2);
                two("UNPK", 243, "11".repeat(n1), second, 3, n1 % 4).leaves(FIELD, unpacked(second, n1)).done();
            }
        }
        two("UNPK", 243, "0000000000", "12345c", 3, 3).leaves(FIELD, "f1f2f3f4c5").done();
        two("UNPK", 243, "00000000", "5c", 3, 3).leaves(FIELD, "f0f0f0c5").done();
    }

    /** "(all of A2 is taken first)" */
    private static void formsThatOverlap() {
        String before = "f1e2d3c4b5a69788796a5b4c3d2e1f0392";
        for (int code = 242; code <= 243; code++) {
            for (int shift = -4; shift <= 4; shift++) {
                for (int n1 = 1; n1 <= 8; n1++) {
                    for (int n2 = 1; n2 <= 8; n2++) {
                        int a1 = Math.max(0, shift);
                        int a2 = a1 - shift;
                        String second = before.substring(2 * a2, 2 * (a2 + n2));
                        String due = code == 242 ? packed(second, n1) : unpacked(second, n1);
                        new Step(code + " by " + shift, 3, 1).given(FIELD, before)
                            .ss(code, (n1 - 1) * 16 + n2 - 1, 0, FIELD + a1, 0, FIELD + a2).leaves(FIELD + a1, due)
                            .done();
                    }
                }
            }
        }
    }

    private static void formsNotInMemory() {
        for (int code = 242; code <= 243; code++) {
            for (int n = 1; n <= 16; n++) {
                int l1 = (n - 1) * 16;
                int l2 = n - 1;
                new Step(code + ", field 1 of " + n, 0, 1).given(FIELD, "5c").ss(code, l1, 0, 1025 - n, 0, FIELD)
                    .stops(5);
                new Step(code + ", field 2 of " + n, 0, 1).given(FIELD, "5c").ss(code, l2, 0, FIELD, 0, 1025 - n)
                    .stops(5);
                Step first = new Step(code + ", field 1 up to the end", 0, 1).ss(code, l1, 0, 1024 - n, 0, FIELD);
                Check.same(code + ", field 1 up to the end, " + n, first.machine.run(1), 1);
                Step second = new Step(code + ", field 2 up to the end", 0, 1).ss(code, l2, 0, FIELD, 0, 1024 - n);
                Check.same(code + ", field 2 up to the end, " + n, second.machine.run(1), 1);
            }
        }
    }

    /** "the sign: 11, 13 minus, 10, 12, 14, 15 plus (written 13, 12)" */
    private static void signs() {
        for (char s1 = 'a'; s1 <= 'f'; s1++) {
            for (char s2 = 'a'; s2 <= 'f'; s2++) {
                String first = "00007" + s1;
                String second = "3" + s2;
                BigInteger u = number(first);
                BigInteger v = number(second);
                sum(ZAP, first, second, v, 0);
                sum(AP, first, second, u.add(v), 0);
                sum(SP, first, second, u.subtract(v), 0);
                two("CP", CP, first, second, 0, 3).condition(conditionOf(u.compareTo(v))).done();
                product(first, second);
                quotient(first, second);
            }
        }
    }

    private static String right(int code) {
        return code == MP || code == DP ? "00001c" : "12345c";
    }

    /** "FAULT 7: ... a sign below 10." */
    private static void wrongSigns() {
        for (int code = ZAP; code <= DP; code++) {
            for (int sign = 0; sign <= 9; sign++) {
                two("sign of field 2, " + code, code, right(code), "5" + sign, 3, 2).stops(7);
                if (code != ZAP) {
                    two("sign of field 1, " + code, code, "00001" + sign, "5c", 3, 2).stops(7);
                }
            }
        }
    }

    /** "FAULT 7: a digit above 9" */
    private static void wrongDigits() {
        for (int code = ZAP; code <= DP; code++) {
            for (int place = 0; place < 5; place++) {
                for (char digit = 'a'; digit <= 'f'; digit++) {
                    StringBuilder wrong = new StringBuilder("00001c");
                    wrong.setCharAt(place, digit);
                    two("digit of field 2, " + code, code, "0000000000" + right(code), wrong.toString(), 3, 2).stops(7);
                    if (code != ZAP) {
                        two("digit of field 1, " + code, code, wrong.toString(), "5c", 3, 2).stops(7);
                    }
                }
            }
        }
    }

    /** "ZAP: field 1 is field 2 (of field 1 nothing is looked at)." */
    private static void nothingOfFieldOneIsLookedAt() {
        for (String first : new String[] {"ffffff", "000000", "aaaaaa", "00001c", "123459"}) {
            sum(ZAP, first, "5d", BigInteger.valueOf(-5), 3);
        }
    }

    /** "FAULT 6 if a field of ZAP to DP has more than 8 OCTETS." */
    private static void moreThanEight() {
        for (int code = ZAP; code <= DP; code++) {
            for (int n = 9; n <= 16; n++) {
                String longer = "0".repeat(2 * n - 2) + "1c";
                two("field 1 of " + n + ", " + code, code, longer, "5c", 3, 2).stops(6);
                two("field 2 of " + n + ", " + code, code, "000000000000001c", longer, 3, 2).stops(6);
                two("both of " + n + ", " + code, code, longer, longer, 3, 2).stops(6);
            }
        }
        sum(ZAP, "0000000000000000", "999999999999999d", number("999999999999999d"), 3);
        sum(AP, "000000000000001c", "000000000000001c", BigInteger.TWO, 3);
        sum(SP, "000000000000001c", "000000000000002c", BigInteger.ONE.negate(), 3);
        two("CP of eight", CP, "999999999999999c", "999999999999998c", 3, 3).condition(2).done();
        product("000000000000007c", "6d");
        quotient("000000000000043c", "6d");
    }

    /** A sum, difference or field 2 itself to field 1, by the number that is due. */
    private static void sum(int code, String first, String second, BigInteger due, int mask) {
        int n = first.length() / 2;
        char sign = due.signum() < 0 ? 'd' : 'c';
        Step step = two("code " + code, code, first, second, mask, 3).leaves(FIELD, field(n, due, sign));
        if (hasRoom(n, due)) {
            step.condition(conditionOf(due.signum())).done();
        } else {
            step.overflowsIf(mask >= 2, 10);
        }
    }

    /** "CC of the three: 0 zero, 1 below, 2 above, 3 if there is no room", "CP: CC 0, 1, 2 as C." */
    private static void sumsAndComparisons() {
        int mask = 0;
        for (int n1 = 1; n1 <= 8; n1++) {
            for (int n2 = 1; n2 <= 8; n2++) {
                for (String first : fields(n1)) {
                    for (String second : fields(n2)) {
                        BigInteger u = number(first);
                        BigInteger v = number(second);
                        sum(ZAP, first, second, v, mask);
                        sum(AP, first, second, u.add(v), mask);
                        sum(SP, first, second, u.subtract(v), mask);
                        two("CP", CP, first, second, mask, 3).condition(conditionOf(u.compareTo(v))).done();
                        mask = (mask + 1) % 4;
                    }
                }
            }
        }
    }

    /** "the last digits stay, with the sign of the whole; FAULT 10 with MASK DECIMAL, all done" */
    private static void noRoom() {
        for (int n = 1; n <= 8; n++) {
            String nines = "9".repeat(2 * n - 1);
            String zeros = "0".repeat(2 * n - 1);
            for (int mask = 0; mask <= 3; mask++) {
                boolean isFault = mask >= 2;
                two("AP", AP, nines + "c", "1c", mask, 0).leaves(FIELD, zeros + "c").overflowsIf(isFault, 10);
                two("AP", AP, nines + "d", "1d", mask, 0).leaves(FIELD, zeros + "d").overflowsIf(isFault, 10);
                two("SP", SP, nines + "c", "1d", mask, 0).leaves(FIELD, zeros + "c").overflowsIf(isFault, 10);
                two("SP", SP, nines + "d", "1c", mask, 0).leaves(FIELD, zeros + "d").overflowsIf(isFault, 10);
                two("AP, just room", AP, nines.substring(1) + "8d", "1d", mask, 0).leaves(FIELD, nines + "d")
                    .condition(1).done();
            }
        }
        two("ZAP", ZAP, "ff", "120d", 2, 0).leaves(FIELD, "0d").overflows(10);
        two("ZAP", ZAP, "ff", "120b", 1, 0).leaves(FIELD, "0d").condition(3).done();
        two("ZAP", ZAP, "ff", "120f", 3, 0).leaves(FIELD, "0c").overflows(10);
        two("ZAP, just room", ZAP, "ff", "009d", 3, 0).leaves(FIELD, "9d").condition(1).done();
        two("ZAP, just none", ZAP, "ff", "010d", 3, 0).leaves(FIELD, "0d").overflows(10);
    }

    /** "A zero is plus (but for one that had no room)." */
    private static void zeroIsPlus() {
        for (String minus : new String[] {"d", "b"}) {
            two("ZAP", ZAP, "ffff", "000" + minus, 3, 3).leaves(FIELD, "000c").condition(0).done();
            two("ZAP to fewer", ZAP, "ff", "000" + minus, 3, 3).leaves(FIELD, "0c").condition(0).done();
            two("AP", AP, "000" + minus, "0" + minus, 3, 3).leaves(FIELD, "000c").condition(0).done();
            two("AP", AP, "005" + minus, "5c", 3, 3).leaves(FIELD, "000c").condition(0).done();
            two("SP", SP, "000" + minus, "0c", 3, 3).leaves(FIELD, "000c").condition(0).done();
            two("SP", SP, "005" + minus, "5d", 3, 3).leaves(FIELD, "000c").condition(0).done();
            two("CP", CP, "000" + minus, "0c", 3, 3).condition(0).done();
        }
    }

    private static void product(String first, String second) {
        int n1 = first.length() / 2;
        char sign = isMinus(first) != isMinus(second) ? 'd' : 'c';
        String due = field(n1, number(first).multiply(number(second)), sign);
        two("MP", MP, first, second, 3, 3).leaves(FIELD, due).done();
    }

    /** "field 1 is the product, minus if just one sign is" */
    private static void products() {
        for (int n2 = 1; n2 <= 7; n2++) {
            for (int n1 = n2 + 1; n1 <= 8; n1++) {
                for (String small : fields(n1 - n2)) {
                    for (String second : fields(n2)) {
                        product("00".repeat(n2) + small, second);
                    }
                }
            }
        }
    }

    /** "FAULT 7 also if field 1 has fewer OCTETS 0 in front (digits) than field 2 has OCTETS" */
    private static void tooFewZeros() {
        for (int n2 = 1; n2 <= 7; n2++) {
            for (int n1 = n2 + 1; n1 <= 8; n1++) {
                for (int place = 0; place < 2 * n1 - 1; place++) {
                    StringBuilder first = new StringBuilder("0".repeat(2 * n1 - 1) + "c");
                    first.setCharAt(place, '1');
                    String second = "0".repeat(2 * n2 - 1) + "d";
                    if (place < 2 * n2) {
                        two("MP", MP, first.toString(), second, 3, 1).stops(7);
                    } else {
                        product(first.toString(), second);
                    }
                }
            }
        }
        two("MP, two octets alike", MP, "0101001c", "001d", 3, 1).stops(7);
        two("MP, half an octet", MP, "1000001c", "1d", 3, 1).stops(7);
    }

    /** "FAULT 6 if field 2 has more OCTETS than field 1 less 1", "DP: FAULT 6 likewise" */
    private static void secondTooLong() {
        for (int code = MP; code <= DP; code++) {
            for (int n1 = 1; n1 <= 8; n1++) {
                for (int n2 = 1; n2 <= 8; n2++) {
                    String first = "0".repeat(2 * n1 - 1) + "c";
                    String second = "0".repeat(2 * n2 - 2) + "1d";
                    if (n2 > n1 - 1) {
                        two("code " + code, code, first, second, 3, 1).stops(6);
                    } else if (code == MP) {
                        product(first, second);
                    } else {
                        quotient(first, second);
                    }
                }
            }
        }
    }

    private static void quotient(String first, String second) {
        int n1 = first.length() / 2;
        int n2 = second.length() / 2;
        BigInteger v = number(second);
        Step step = two("DP", DP, first, second, 3, 3);
        if (v.signum() == 0) {
            step.stops(11);
            return;
        }
        BigInteger[] due = number(first).divideAndRemainder(v);
        if (!hasRoom(n1 - n2, due[0])) {
            step.stops(11);
            return;
        }
        char sign = isMinus(first) != isMinus(second) ? 'd' : 'c';
        char restSign = isMinus(first) ? 'd' : 'c';
        step.leaves(FIELD, field(n1 - n2, due[0], sign) + field(n2, due[1], restSign)).done();
    }

    /** "the quotient (its OCTETS less those of field 2; ...), then the rest (as many OCTETS as field 2, ...)" */
    private static void quotients() {
        for (int n2 = 1; n2 <= 7; n2++) {
            for (int n1 = n2 + 1; n1 <= 8; n1++) {
                for (String first : fields(n1)) {
                    for (String second : fields(n2)) {
                        quotient(first, second);
                    }
                }
            }
        }
    }

    /** "FAULT 11 if field 2 is 0 or there is no room for the quotient." */
    private static void noRoomForTheQuotient() {
        for (int n2 = 1; n2 <= 7; n2++) {
            for (int n1 = n2 + 1; n1 <= 8; n1++) {
                for (String second : fields(n2)) {
                    BigInteger v = number(second).abs();
                    BigInteger least = tenTo(2 * (n1 - n2) - 1).multiply(v);
                    for (char sign : new char[] {'c', 'd'}) {
                        quotient(field(n1, least, sign), second);
                        quotient(field(n1, least.subtract(BigInteger.ONE), sign), second);
                        quotient(field(n1, least.add(v).subtract(BigInteger.ONE), sign), second);
                    }
                }
                quotient("0".repeat(2 * n1 - 1) + "c", "0".repeat(2 * n2 - 1) + "c");
                quotient("0".repeat(2 * n1 - 1) + "d", "0".repeat(2 * n2 - 1) + "b");
            }
        }
    }

    private static void overlapping(int code, String before, int a1, int n1, int a2, int n2, String after,
            int condition) {
        new Step("code " + code + " " + before, 0, 1).given(FIELD, before)
            .ss(code, (n1 - 1) * 16 + n2 - 1, 0, FIELD + a1, 0, FIELD + a2).leaves(FIELD, after).condition(condition)
            .done();
    }

    /** Both numbers are taken before field 1 is changed. */
    private static void fieldsThatOverlap() {
        overlapping(ZAP, "ff123dff", 0, 4, 1, 2, "0000123d", 1);
        overlapping(ZAP, "12345d", 0, 1, 0, 3, "5d345d", 3);
        overlapping(AP, "00999c", 0, 3, 0, 3, "01998c", 2);
        overlapping(AP, "00999c", 0, 3, 1, 2, "01998c", 2);
        overlapping(SP, "00999d", 0, 3, 0, 3, "00000c", 0);
        overlapping(SP, "00999d", 0, 3, 2, 1, "00990d", 1);
        overlapping(CP, "00999d", 0, 3, 1, 2, "00999d", 0);
        overlapping(MP, "0000099d", 0, 4, 2, 2, "0009801c", 1);
        overlapping(MP, "00009d", 0, 3, 2, 1, "00081c", 1);
        overlapping(DP, "0000025d", 0, 4, 3, 1, "00005c0d", 1);
        overlapping(DP, "0001025d", 0, 4, 2, 2, "041c000d", 1);
        overlapping(DP, "000001230c", 0, 5, 3, 2, "00005c080c", 1);
    }

    private static void fieldsUpToTheEnds() {
        for (int code = ZAP; code <= DP; code++) {
            for (int n = 2; n <= 8; n++) {
                String first = "0".repeat(2 * n - 2) + "1c";
                Step step = new Step(code + ", field 1 of " + n + " up to the end", 0, 0).given(1024 - n, first)
                    .given(FIELD, "1c").ss(code, (n - 1) * 16, 0, 1024 - n, 0, FIELD);
                Check.same(code + ", field 1 of " + n + " up to the end", step.machine.run(1), 1);
                Step second = new Step(code + ", field 2 up to the end", 0, 0).given(1024 - n + 1, first.substring(2))
                    .given(FIELD, first).ss(code, (n - 1) * 16 + n - 2, 0, FIELD, 0, 1024 - n + 1);
                Check.same(code + ", field 2 of " + (n - 1) + " up to the end", second.machine.run(1), 1);
            }
        }
    }

    /** "FAULT 5: ... (...; of fields all OCTETS are)" */
    private static void fieldsNotInMemory() {
        for (int code = ZAP; code <= DP; code++) {
            for (int n = 2; n <= 8; n++) {
                String first = "0".repeat(2 * n - 2) + "1c";
                new Step(code + ", field 1 of " + n + " one behind", 0, 2).given(1023, "0c").given(FIELD, "1c")
                    .ss(code, (n - 1) * 16, 0, 1025 - n, 0, FIELD).stops(5);
                new Step(code + ", field 2 of " + (n - 1) + " one behind", 0, 2).given(FIELD, first)
                    .ss(code, (n - 1) * 16 + n - 2, 0, FIELD, 0, 1026 - n).stops(5);
            }
            new Step(code + ", field 1 before 0", 0, 2).given(1, -1).given(FIELD, "1c").ss(code, 0x10, 1, 0, 0, FIELD)
                .stops(5);
            new Step(code + ", field 2 before 0", 0, 2).given(1, -1).given(FIELD, "001c").ss(code, 0x10, 0, FIELD, 1, 0)
                .stops(5);
        }
    }
}
