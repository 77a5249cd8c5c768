/** Promise 11: packed. */
public final class PackedTest {
    public static void main(String[] args) {
        rightOnes();
        wrongOnes();
        Check.end();
    }

    private static void packed(String octets, long due) {
        DecimalMachine m = new DecimalMachine();
        int n = octets.length() / 2;
        Check.put(m, 513, octets);
        Check.same("packed " + octets, m.packed(513, n), due);
        DecimalMachine end = new DecimalMachine();
        Check.put(end, 1024 - n, octets);
        Check.same("packed at the end " + octets, end.packed(1024 - n, n), due);
    }

    private static void rightOnes() {
        packed("5c", 5);
        packed("5d", -5);
        packed("0d", 0);
        packed("123a", 123);
        packed("123b", -123);
        packed("123c", 123);
        packed("123d", -123);
        packed("123e", 123);
        packed("123f", 123);
        packed("01234567890c", 1234567890);
        packed("999999999999999c", 999999999999999L);
        packed("999999999999999d", -999999999999999L);
        DecimalMachine m = new DecimalMachine();
        Check.put(m, 0, "7c");
        Check.same("packed at the start", m.packed(0, 1), 7);
    }

    private static void wrongOnes() {
        for (String octets : new String[] {"00", "59", "ac", "a23c", "1a3c", "12ac", "f00000000000000c"}) {
            DecimalMachine m = new DecimalMachine();
            Check.put(m, 512, octets);
            Check.illegal("packed " + octets, m, () -> m.packed(512, octets.length() / 2));
        }
        for (int n : new int[] {0, 9, -1, Integer.MIN_VALUE, Integer.MAX_VALUE}) {
            DecimalMachine m = new DecimalMachine();
            Check.put(m, 512, "000000000000000000000c");
            Check.illegal("packed of " + n, m, () -> m.packed(512, n));
            Check.illegal("packed of " + n + " outside", m, () -> m.packed(-1, n));
        }
        for (int a : new int[] {-1, 1023, 1024, Integer.MIN_VALUE, Integer.MAX_VALUE, 1 << 24}) {
            DecimalMachine m = new DecimalMachine();
            Check.outside("packed at " + a, m, () -> m.packed(a, 2));
        }
    }
}
