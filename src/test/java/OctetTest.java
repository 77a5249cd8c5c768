/** Promise 10, the instructions SI and those SS that go octet by octet. */
public final class OctetTest {
    private static final int AT = Check.AT;
    private static final int FIELD = Check.FIELD;

    public static void main(String[] args) {
        tests();
        immediates();
        moves();
        bits();
        comparisons();
        translations();
        fieldsOutside();
        Check.end();
    }

    private static void immediate(String what, int code, int octet, int i, int result, int condition) {
        int before = code == 146 ? condition : 2 - Math.min(condition, 2) / 2;
        DecimalMachine m = Check.ready(0, before);
        m.poke(FIELD, 3, 0x110011 | octet << 8);
        m.set(3, FIELD - 1);
        m.rx(AT, code, i >> 4, i & 15, 3, 2);
        Check.goes(what, m, condition, AT + 4);
        Check.same(what, m.octet(FIELD + 1), result);
        Check.same(what + " leaves others", m.octet(FIELD) * 256 + m.octet(FIELD + 2), 0x1111);
    }

    private static void tests() {
        immediate("TM all 0", 145, 0x0F, 0xF0, 0x0F, 0);
        immediate("TM all 1", 145, 0xFB, 0x81, 0xFB, 3);
        immediate("TM mixed", 145, 0x0F, 0x18, 0x0F, 1);
        immediate("TM none", 145, 0xFF, 0, 0xFF, 0);
        immediate("TM every", 145, 0xFF, 0xFF, 0xFF, 3);
    }

    private static void immediates() {
        for (int condition = 0; condition <= 3; condition++) {
            immediate("MVI", 146, 5, 0xC3, 0xC3, condition);
        }
        immediate("NI", 148, 0xF3, 0x3F, 0x33, 1);
        immediate("NI zero", 148, 0xF0, 0x0F, 0, 0);
        immediate("OI", 150, 0xF0, 0x03, 0xF3, 1);
        immediate("OI zero", 150, 0, 0, 0, 0);
        immediate("XI", 151, 0xFF, 0x0F, 0xF0, 1);
        immediate("XI zero", 151, 0xA5, 0xA5, 0, 0);
        immediate("CLI like", 149, 0x80, 0x80, 0x80, 0);
        immediate("CLI below", 149, 0x7F, 0x80, 0x7F, 1);
        immediate("CLI above", 149, 0xFF, 0x01, 0xFF, 2);
        for (int code : new int[] {145, 146, 148, 149, 150, 151}) {
            DecimalMachine m = Check.ready(0, 2);
            m.rx(AT, code, 1, 1, 0, 1024);
            Check.stopped("SI outside", m, 5);
            DecimalMachine last = Check.ready(0, 0);
            last.rx(AT, code, 0, 0, 0, 1023);
            Check.same("SI at the end", last.run(1), 1);
        }
    }

    private static DecimalMachine field(int code, int n, int a1, int a2, String octets, int condition) {
        DecimalMachine m = Check.ready(3, condition);
        Check.put(m, FIELD, octets);
        m.set(1, FIELD);
        m.ss(AT, code, n - 1, 1, a1, 0, FIELD + a2);
        return m;
    }

    private static void move(String what, int code, int n, int a1, int a2, String before, String after) {
        DecimalMachine m = field(code, n, a1, a2, before, 2);
        Check.goes(what, m, 2, AT + 6);
        Check.same(what, Check.octets(m, FIELD, before.length() / 2), after);
    }

    private static void moves() {
        move("MVC", 210, 3, 0, 4, "0000000012345678", "1234560012345678");
        move("MVC of one", 210, 1, 0, 4, "0000000012345678", "1200000012345678");
        move("MVC spreads", 210, 4, 1, 0, "ab11223344", "abababab" + "ab");
        move("MVC to the left", 210, 3, 0, 1, "0a0b0c0d", "0b0c0d0d");
        move("MVN", 209, 2, 0, 4, "abcd000012345678", "a2c4000012345678");
        move("MVN spreads", 209, 3, 1, 0, "a1b2c3d4", "a1b1c1d1");
        move("MVZ", 211, 2, 0, 4, "abcd000012345678", "1b3d000012345678");
        move("MVZ spreads", 211, 3, 1, 0, "a1b2c3d4", "a1a2a3a4");
        DecimalMachine all = Check.ready(0, 1);
        all.poke(300, 1, 0x77);
        all.ss(AT, 210, 255, 0, 301, 0, 300);
        Check.goes("MVC of 256", all, 1, AT + 6);
        Check.same("MVC of 256, last", all.octet(556), 0x77);
        Check.same("MVC of 256, behind", all.octet(557), 0);
    }

    private static void bits(String what, int code, int n, int a1, int a2, String before, String after, int condition) {
        DecimalMachine m = field(code, n, a1, a2, before, 3 - condition);
        Check.goes(what, m, condition, AT + 6);
        Check.same(what, Check.octets(m, FIELD, before.length() / 2), after);
    }

    private static void bits() {
        bits("NC", 212, 2, 0, 2, "f3ff3f80ff", "3380" + "3f80ff", 1);
        bits("NC zero", 212, 2, 0, 2, "f0f00f0fff", "0000" + "0f0fff", 0);
        bits("NC first not zero", 212, 2, 0, 2, "f1f00f0f", "0100" + "0f0f", 1);
        bits("OC", 214, 2, 0, 2, "f0000f01", "ff010f01", 1);
        bits("OC zero", 214, 2, 0, 2, "00000000", "00000000", 0);
        bits("XC", 215, 2, 0, 2, "f00fff0f", "0f00ff0f", 1);
        bits("XC with itself", 215, 4, 0, 0, "123456789a", "000000009a", 0);
        bits("XC spreads", 215, 3, 1, 0, "01020408", "0103070f", 1);
        bits("OC spreads", 214, 3, 1, 0, "01020408", "0103070f", 1);
        bits("NC spreads", 212, 3, 1, 0, "00ffffff", "00000000", 0);
    }

    private static void compare(String what, int n, String octets, int condition) {
        DecimalMachine m = field(213, n, 0, 4, octets, condition == 0 ? 2 : 0);
        Check.goes(what, m, condition, AT + 6);
        Check.same(what, Check.octets(m, FIELD, 8), octets);
    }

    private static void comparisons() {
        compare("CLC like", 3, "0102030401020305", 0);
        compare("CLC below", 4, "0102030401020305", 1);
        compare("CLC above without signs", 4, "8000000001ffffff", 2);
        compare("CLC by the first", 4, "01ff00000200ffff", 1);
        compare("CLC by the second", 4, "0102ffff0103ffff", 1);
        compare("CLC by the second, then other", 4, "0103000001020505", 2);
    }

    private static void translations() {
        DecimalMachine m = Check.ready(3, 2);
        Check.put(m, FIELD - 1, "010003ff0102");
        Check.put(m, 700, "a0a1a2a3");
        m.poke(955, 1, 0xFE);
        m.ss(AT, 220, 3, 0, FIELD, 0, 700);
        Check.goes("TR", m, 2, AT + 6);
        Check.same("TR", Check.octets(m, FIELD - 1, 6), "01a0a3fea102");
        DecimalMachine self = Check.ready(0, 0);
        Check.put(self, FIELD, "03000109");
        self.ss(AT, 220, 2, 0, FIELD, 0, FIELD);
        Check.done("TR by itself", self, 0);
        Check.same("TR by itself, one after the other", Check.octets(self, FIELD, 4), "09090909");
        DecimalMachine far = Check.ready(0, 1);
        Check.put(far, FIELD, "0302");
        far.set(1, -2);
        Check.put(far, 0, "5a5b");
        far.ss(AT, 220, 1, 0, FIELD, 1, 0);
        Check.done("TR, addresses modulo 2^24", far, 1);
        Check.same("TR, addresses modulo 2^24", Check.octets(far, FIELD, 2), "5b5a");
        DecimalMachine high = Check.ready(0, 1);
        Check.put(high, FIELD, "0007");
        high.ss(AT, 220, 1, 0, FIELD, 0, 1016);
        Check.done("TR, only what is taken counts", high, 1);
        DecimalMachine out = Check.ready(0, 1);
        Check.put(out, FIELD, "0008");
        out.ss(AT, 220, 1, 0, FIELD, 0, 1016);
        Check.stopped("TR, an entry outside", out, 5);
        Check.put(out, FIELD, "0800");
        Check.stopped("TR, the first entry outside", out, 5);
        DecimalMachine field = Check.ready(0, 1);
        field.ss(AT, 220, 1, 0, 1023, 0, FIELD);
        Check.stopped("TR, field 1 outside", field, 5);
    }

    private static void fieldsOutside() {
        for (int code : new int[] {209, 210, 211, 212, 213, 214, 215}) {
            DecimalMachine one = field(code, 4, 0, 8, "01020304050607080900ff00", 1);
            one.ss(AT, code, 3, 0, 1021, 0, FIELD);
            Check.stopped("field 1 of " + code, one, 5);
            DecimalMachine two = field(code, 4, 0, 8, "01020304050607080900ff00", 1);
            two.ss(AT, code, 3, 0, FIELD, 0, 1021);
            Check.stopped("field 2 of " + code, two, 5);
            DecimalMachine last = field(code, 4, 0, 8, "01020304050607080900ff00", 1);
            last.ss(AT, code, 3, 0, 1020, 0, 1020);
            Check.same("fields at the end", last.run(1), 1);
        }
    }
}
