/** Promise 10, packed decimals: CVB, CVD, PACK, UNPK, ZAP, CP, AP, SP, MP, DP. */
public final class DecimalTest {
    private static final int AT = Check.AT;
    private static final int FIELD = Check.FIELD;
    private static final int SECOND = FIELD + 16;
    private static final int ZAP = 248;
    private static final int CP = 249;
    private static final int AP = 250;
    private static final int SP = 251;
    private static final int MP = 252;
    private static final int DP = 253;

    public static void main(String[] args) {
        toBinary();
        toDecimal();
        packs();
        unpacks();
        zaps();
        sums();
        overflows();
        comparisons();
        products();
        quotients();
        wrongData();
        wrongSizes();
        fieldsOutside();
        overlaps();
        Check.end();
    }

    private static DecimalMachine doubleword(int code, String octets) {
        DecimalMachine m = Check.ready(3, 2);
        Check.put(m, FIELD, octets);
        m.set(2, 4711);
        m.rx(AT, code, 2, 0, 0, FIELD);
        return m;
    }

    private static void toBinary(String what, String octets, int result) {
        DecimalMachine m = doubleword(79, octets);
        Check.goes(what, m, 2, AT + 4);
        Check.same(what, m.register(2), result);
    }

    private static void toBinary() {
        toBinary("CVB", "000000000012345c", 12345);
        toBinary("CVB minus", "000000000012345d", -12345);
        toBinary("CVB greatest", "000002147483647f", Integer.MAX_VALUE);
        toBinary("CVB least", "000002147483648b", Integer.MIN_VALUE);
        toBinary("CVB minus zero", "000000000000000d", 0);
        Check.stopped("CVB beyond", doubleword(79, "000002147483648c"), 9);
        Check.stopped("CVB beyond below", doubleword(79, "000002147483649d"), 9);
        Check.stopped("CVB far beyond", doubleword(79, "999999999999999c"), 9);
        Check.stopped("CVB, a digit", doubleword(79, "00000000a012345c"), 7);
        Check.stopped("CVB, a digit, beyond", doubleword(79, "a99999999999999c"), 7);
        Check.stopped("CVB, a sign", doubleword(79, "0000000000123459"), 7);
        for (int code = 78; code <= 79; code++) {
            DecimalMachine at = Check.ready(0, 1);
            at.rx(AT, code, 2, 0, 0, FIELD + 4);
            Check.stopped("no double's place", at, 6);
            at.rx(AT, code, 2, 0, 0, FIELD + 1);
            Check.stopped("no double's place, odd", at, 6);
            DecimalMachine out = Check.ready(0, 1);
            out.rx(AT, code, 2, 0, 0, 1024);
            Check.stopped("a double outside", out, 5);
        }
    }

    private static void toDecimal() {
        int[] values = {0, 7, -1, 1234567890, Integer.MAX_VALUE, Integer.MIN_VALUE};
        String[] due = {"000000000000000c", "000000000000007c", "000000000000001d", "000001234567890c",
            "000002147483647c", "000002147483648d"};
        for (int i = 0; i < values.length; i++) {
            DecimalMachine m = doubleword(78, "ffffffffffffffffee");
            m.set(2, values[i]);
            Check.goes("CVD " + values[i], m, 2, AT + 4);
            Check.same("CVD " + values[i], Check.octets(m, FIELD, 9), due[i] + "ee");
        }
    }

    private static DecimalMachine two(int code, String first, String second, int mask, int condition) {
        DecimalMachine m = Check.ready(mask, condition);
        Check.put(m, FIELD, first);
        Check.put(m, SECOND, second);
        m.set(1, SECOND);
        m.ss(AT, code, (first.length() / 2 - 1) * 16 + second.length() / 2 - 1, 0, FIELD, 1, 0);
        return m;
    }

    private static void form(String what, int code, String first, String second, String result) {
        DecimalMachine m = two(code, first, second, 3, 3);
        m.poke(FIELD - 1, 1, 0x99);
        Check.goes(what, m, 3, AT + 6);
        Check.same(what, Check.octets(m, FIELD, first.length() / 2), result);
        Check.same(what + " leaves field 2", Check.octets(m, SECOND, second.length() / 2), second);
        Check.same(what + " leaves what is before", m.octet(FIELD - 1), 0x99);
    }

    private static void packs() {
        form("PACK", 242, "ffffff", "f1f2f3f4c5", "12345c");
        form("PACK with zeros", 242, "ffffffff", "f1f2c3", "0000123c");
        form("PACK of even digits", 242, "ffffff", "f1f2f3d4", "01234d");
        form("PACK, too much", 242, "ffff", "f1f2f3f4f5", "345f");
        form("PACK to one", 242, "ff", "f1f2f3", "3f");
        form("PACK of one", 242, "ffff", "a7", "007a");
        form("PACK looks at no digit", 242, "ffff", "abcdef", "bdfe");
        form("PACK of sixteen", 242, "ffffffffffffffffff", "f1f2f3f4f5f6f7f8f9f0f1f2f3f4f5f6", "01234567890123456f");
        form("PACK to sixteen", 242, "ffffffffffffffffffffffffffffffff", "f1c2", "0000000000000000000000000000012c");
    }

    private static void unpacks() {
        form("UNPK", 243, "0000000000", "12345c", "f1f2f3f4c5");
        form("UNPK with zeros", 243, "00000000000000", "12345d", "f0f0f1f2f3f4d5");
        form("UNPK, too much", 243, "0000", "12345c", "f4c5");
        form("UNPK to one", 243, "00", "12345c", "c5");
        form("UNPK of one", 243, "000000", "5c", "f0f0c5");
        form("UNPK looks at no digit", 243, "000000", "abcd", "fafbdc");
        form("UNPK to sixteen", 243, "00000000000000000000000000000000", "123456789012345c",
            "f0f1f2f3f4f5f6f7f8f9f0f1f2f3f4c5");
        form("UNPK of sixteen", 243, "0000", "0000000000000000000000000000012c", "f1c2");
    }

    private static void sum(String what, int code, String first, String second, String result, int condition) {
        DecimalMachine m = two(code, first, second, condition == 3 ? 1 : 3, 3 - condition);
        Check.goes(what, m, condition, AT + 6);
        Check.same(what, Check.octets(m, FIELD, first.length() / 2), result);
    }

    private static void zaps() {
        sum("ZAP", ZAP, "ffffff", "123c", "00123c", 2);
        sum("ZAP minus", ZAP, "ffff", "123b", "123d", 1);
        sum("ZAP other signs", ZAP, "ffff", "123a", "123c", 2);
        sum("ZAP sign 14", ZAP, "ffff", "123e", "123c", 2);
        sum("ZAP sign 15", ZAP, "ffff", "123f", "123c", 2);
        sum("ZAP zero", ZAP, "ffff", "0c", "000c", 0);
        sum("ZAP minus zero", ZAP, "ffff", "000d", "000c", 0);
        sum("ZAP to fewer with room", ZAP, "ff", "00009d", "9d", 1);
        sum("ZAP no room", ZAP, "ff", "123d", "3d", 3);
        sum("ZAP no room, zero", ZAP, "ff", "120d", "0d", 3);
        sum("ZAP no room, plus zero", ZAP, "ff", "120c", "0c", 3);
        sum("ZAP of eight", ZAP, "ffffffffffffffff", "999999999999999d", "999999999999999d", 1);
    }

    private static void sums() {
        sum("AP", AP, "01234c", "125d", "01109c", 2);
        sum("AP to zero", AP, "125d", "125c", "000c", 0);
        sum("AP of minus zeros", AP, "000d", "0d", "000c", 0);
        sum("AP to minus 1", AP, "001c", "002d", "001d", 1);
        sum("AP minus", AP, "001b", "125d", "126d", 1);
        sum("AP to all nines", AP, "998c", "1c", "999c", 2);
        sum("AP, field 2 longer", AP, "9d", "001c", "8d", 1);
        sum("AP of eight", AP, "499999999999999c", "500000000000000c", "999999999999999c", 2);
        sum("SP", SP, "125c", "5c", "120c", 2);
        sum("SP minus", SP, "005c", "125c", "120d", 1);
        sum("SP to zero", SP, "005d", "5b", "000c", 0);
        sum("SP of minus", SP, "005c", "5d", "010c", 2);
    }

    private static void overflow(String what, int code, String first, String second, String result) {
        sum(what, code, first, second, result, 3);
        DecimalMachine m = two(code, first, second, 2, 0);
        Check.overflowed(what, m, 10, AT + 6);
        Check.same(what + " masked", Check.octets(m, FIELD, first.length() / 2), result);
    }

    private static void overflows() {
        overflow("AP no room", AP, "999c", "2c", "001c");
        overflow("AP no room, zero", AP, "999c", "1c", "000c");
        overflow("AP no room, minus zero", AP, "999d", "1d", "000d");
        overflow("SP no room", SP, "9d", "123c", "2d");
        overflow("SP no room, zero", SP, "5d", "005c", "0d");
        overflow("AP of eight no room", AP, "999999999999999c", "999999999999999c", "999999999999998c");
        overflow("ZAP no room", ZAP, "ffff", "98765d", "765d");
    }

    private static void comparisons() {
        String[][] pairs = {{"123c", "00123f"}, {"122c", "00123c"}, {"123d", "122d"}, {"1c", "000d"},
            {"0d", "000c"}, {"000000000000001c", "2d"}};
        int[] due = {0, 1, 1, 2, 0, 2};
        for (int i = 0; i < pairs.length; i++) {
            DecimalMachine m = two(CP, pairs[i][0], pairs[i][1], 3, 3);
            Check.goes("CP " + i, m, due[i], AT + 6);
            Check.same("CP " + i, Check.octets(m, FIELD, pairs[i][0].length() / 2), pairs[i][0]);
        }
    }

    private static void product(String what, int code, String first, String second, String result) {
        DecimalMachine m = two(code, first, second, 3, 1);
        m.poke(FIELD - 1, 1, 0x99);
        Check.goes(what, m, 1, AT + 6);
        Check.same(what + " leaves what is before", m.octet(FIELD - 1), 0x99);
        Check.same(what, Check.octets(m, FIELD, first.length() / 2), result);
    }

    private static void products() {
        product("MP", MP, "0000007c", "3d", "0000021d");
        product("MP both minus", MP, "00007d", "3b", "00021c");
        product("MP plus", MP, "00007f", "3a", "00021c");
        product("MP zero, one minus", MP, "00000d", "3c", "00000d");
        product("MP zero, other minus", MP, "00000c", "3d", "00000d");
        product("MP greatest", MP, "000000009999999c", "9999999c", "099999980000001c");
        product("MP, just as many zeros", MP, "0000999c", "999c", "0998001c");
        product("MP, just one octet 0", MP, "00999c", "9d", "08991d");
        Check.stopped("MP, too few zeros", two(MP, "01000c", "9c", 0, 1), 7);
        Check.stopped("MP, half an octet 0", two(MP, "10000c", "9c", 0, 1), 7);
        Check.stopped("MP, one octet 0 for two", two(MP, "0001000c", "009c", 0, 1), 7);
    }

    private static void quotients() {
        product("DP", DP, "0000022c", "5c", "00004c2c");
        product("DP minus", DP, "0000022d", "5c", "00004d2d");
        product("DP by minus", DP, "0000022c", "5d", "00004d2c");
        product("DP both minus", DP, "0000022b", "5b", "00004c2d");
        product("DP rest zero, minus", DP, "0000021d", "3d", "00007c0d");
        product("DP quotient zero, minus", DP, "0000002c", "3d", "00000d2c");
        product("DP just room", DP, "08999c", "9c", "999c8c");
        product("DP just room for one digit", DP, "029f", "3a", "9c2c");
        product("DP by seven octets", DP, "000000000000019d", "0000000000002c", "9d0000000000001d");
        product("DP of the most digits", DP, "089999999999999c", "9d", "9999999999999d8c");
        Check.stopped("DP no room", two(DP, "09000c", "9c", 0, 1), 11);
        Check.stopped("DP no room for one digit", two(DP, "030c", "3c", 0, 1), 11);
        Check.stopped("DP by zero", two(DP, "00009c", "0c", 0, 1), 11);
        Check.stopped("DP by minus zero", two(DP, "00009c", "0d", 3, 1), 11);
        Check.stopped("DP of zero by zero", two(DP, "00000c", "0c", 3, 1), 11);
    }

    private static void wrongData() {
        String[] wrong = {"00a01c", "0000ac", "a0001c", "0000f0", "000019", "000010", "0f001c"};
        for (int code = ZAP; code <= DP; code++) {
            for (String w : wrong) {
                if (code != ZAP) {
                    Check.stopped("field 1 " + w + " of " + code, two(code, w, "1c", 3, 2), 7);
                }
            }
            for (String w : new String[] {"ac", "a0", "19", "10"}) {
                Check.stopped("field 2 " + w + " of " + code, two(code, "00001c", w, 3, 2), 7);
            }
        }
        Check.stopped("DP, a digit, by zero", two(DP, "0000ac", "0c", 0, 2), 7);
    }

    private static DecimalMachine sized(int code, int n1, int n2, int a1, int a2) {
        DecimalMachine m = Check.ready(3, 2);
        Check.put(m, FIELD, "0000000000000000000000000000000c");
        Check.put(m, SECOND, "0000000000000000000000000000001c");
        m.ss(AT, code, (n1 - 1) * 16 + n2 - 1, 0, a1 - n1, 0, a2 - n2);
        return m;
    }

    /** Fields by their lengths, both ending where a right one ends. */
    private static void wrongSizes() {
        for (int code = ZAP; code <= DP; code++) {
            Check.stopped("field 1 of nine, " + code, sized(code, 9, 1, SECOND, SECOND + 16), 6);
            Check.stopped("field 2 of nine, " + code, sized(code, 8, 9, SECOND, SECOND + 16), 6);
            Check.stopped("both of sixteen, " + code, sized(code, 16, 16, SECOND, SECOND + 16), 6);
            Check.stopped("field 1 of nine and outside, " + code, sized(code, 9, 1, 1025, SECOND + 16), 6);
            Check.done("fields of eight and seven, " + code, sized(code, 8, 7, SECOND, SECOND + 16),
                code == CP || code == SP ? 1 : 2);
        }
        for (int code = MP; code <= DP; code++) {
            for (int n = 1; n <= 8; n++) {
                Check.stopped("fields of one size, " + code, sized(code, n, n, SECOND, SECOND + 16), 6);
            }
            Check.stopped("field 2 longer, " + code, sized(code, 3, 4, SECOND, SECOND + 16), 6);
            Check.stopped("one size and outside, " + code, sized(code, 3, 3, SECOND, 1025), 6);
        }
        Check.done("ZAP of one size", sized(ZAP, 8, 8, SECOND, SECOND + 16), 2);
        Check.done("ZAP, field 2 longer", sized(ZAP, 1, 8, SECOND, SECOND + 16), 2);
    }

    private static void fieldsOutside() {
        for (int code : new int[] {242, 243, ZAP, CP, AP, SP, MP, DP}) {
            Check.stopped("field 1 outside, " + code, sized(code, 3, 2, 1025, SECOND + 16), 5);
            Check.stopped("field 2 outside, " + code, sized(code, 3, 2, SECOND, 1025), 5);
            Check.stopped("field 2 far outside, " + code, sized(code, 3, 2, SECOND, 4095), 5);
            Check.stopped("outside before data, " + code, sized(code, 3, 2, SECOND - 1, 1025), 5);
        }
        for (int code : new int[] {242, 243, ZAP}) {
            DecimalMachine longer = sized(code, 3, 2, SECOND, 1024);
            Check.put(longer, 1022, "001c");
            Check.same("the shorter field 2 at the end, " + code, longer.run(1), 1);
            DecimalMachine shorter = sized(code, 2, 3, 1024, SECOND + 16);
            Check.same("the shorter field 1 at the end, " + code, shorter.run(1), 1);
        }
        DecimalMachine end = sized(ZAP, 3, 2, 1024, SECOND + 16);
        Check.done("ZAP to the end", end, 2);
        Check.same("ZAP to the end", Check.octets(end, 1020, 4), "0000001c");
    }

    private static void overlap(String what, int code, String before, int[] fields, String after) {
        DecimalMachine m = Check.ready(3, 0);
        Check.put(m, FIELD, before);
        m.ss(AT, code, (fields[1] - 1) * 16 + fields[3] - 1, 0, FIELD + fields[0], 0, FIELD + fields[2]);
        Check.same(what, m.run(1), 1);
        Check.same(what, Check.octets(m, FIELD, before.length() / 2), after);
    }

    /** Fields are told by where they begin and how many octets they have. */
    private static void overlaps() {
        overlap("ZAP", ZAP, "ff123cff", new int[] {0, 4, 1, 2}, "0000123c");
        overlap("AP with itself", AP, "01233d", new int[] {0, 3, 0, 3}, "02466d");
        overlap("SP with itself", SP, "00123d", new int[] {0, 3, 0, 3}, "00000c");
        overlap("MP by its own end", MP, "0000007d", new int[] {0, 4, 3, 1}, "0000049c");
        overlap("DP by its own end", DP, "0000022d", new int[] {0, 4, 3, 1}, "00011c0d");
        overlap("PACK in place", 242, "f1f2f3c4", new int[] {0, 4, 0, 4}, "0001234c");
        overlap("PACK to the left", 242, "f1f2f3", new int[] {0, 2, 0, 3}, "123ff3");
        overlap("UNPK in place", 243, "0001234c", new int[] {0, 4, 0, 4}, "f1f2f3c4");
        overlap("UNPK over its own", 243, "0000001234567c", new int[] {0, 7, 3, 4}, "f1f2f3f4f5f6c7");
    }
}
