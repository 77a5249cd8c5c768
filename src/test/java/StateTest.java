/** Promises 1 to 6 and 12: a new object, poke, octet, set, register, start, count. */
public final class StateTest {
    public static void main(String[] args) {
        newObject();
        pokeAndOctet();
        setAndRegister();
        start();
        count();
        objectsAreApart();
        Check.end();
    }

    private static void newObject() {
        DecimalMachine m = new DecimalMachine();
        for (int a = 0; a < 1024; a += 5) {
            Check.same("new octet " + a, m.octet(a), 0);
        }
        Check.same("new last octet", m.octet(1023), 0);
        for (int r = 0; r < 16; r++) {
            Check.same("new register " + r, m.register(r), 0);
        }
        int[] due = {0, 0, 0, -1, 0, 0, 0};
        for (int what = 0; what < 7; what++) {
            Check.same("new count " + what, m.count(what), due[what]);
        }
        m.rr(0, 24, 0, 0);
        Check.same("a new machine runs from 0", m.run(1), 1);
    }

    private static void pokeAndOctet() {
        DecimalMachine m = new DecimalMachine();
        m.poke(512, 8, 0x0123456789ABCDEFL);
        Check.same("eight octets", Check.octets(m, 511, 10), "000123456789abcdef00");
        m.poke(520, 8, -2);
        Check.same("eight octets below 0", Check.octets(m, 520, 9), "fffffffffffffffe00");
        m.poke(513, 3, 0x7777777711AAFFL);
        Check.same("the lowest three", Check.octets(m, 512, 8), "0111aaff89abcdef");
        m.poke(0, 1, 0x1FF);
        Check.same("the first", Check.octets(m, 0, 2), "ff00");
        m.poke(1023, 1, 200);
        Check.same("the last", m.octet(1023), 200);
        m.poke(1016, 8, 1);
        Check.same("the last eight", Check.octets(m, 1015, 9), "000000000000000001");
        for (int n : new int[] {0, 9, -1, Integer.MIN_VALUE, Integer.MAX_VALUE}) {
            DecimalMachine other = new DecimalMachine();
            Check.illegal("poke n " + n, other, () -> other.poke(512, n, 1));
            Check.illegal("poke n " + n + " outside", other, () -> other.poke(-1, n, 1));
        }
        for (int a : new int[] {-1, 1017, 1024, Integer.MIN_VALUE, Integer.MAX_VALUE, 1 << 24}) {
            DecimalMachine other = new DecimalMachine();
            Check.outside("poke at " + a, other, () -> other.poke(a, 8, -1));
        }
        for (int a : new int[] {-1, 1024, Integer.MIN_VALUE, Integer.MAX_VALUE, 1 << 24, -(1 << 24)}) {
            DecimalMachine other = new DecimalMachine();
            Check.outside("octet " + a, other, () -> other.octet(a));
        }
    }

    private static void setAndRegister() {
        DecimalMachine m = new DecimalMachine();
        for (int r = 0; r < 16; r++) {
            Check.same("first set", m.set(r, r * 1000 - 7), 0);
        }
        for (int r = 0; r < 16; r++) {
            Check.same("register " + r, m.register(r), r * 1000 - 7);
        }
        Check.same("set tells what was", m.set(9, Integer.MIN_VALUE), 8993);
        Check.same("the least int", m.set(9, Integer.MAX_VALUE), Integer.MIN_VALUE);
        Check.same("the greatest int", m.register(9), Integer.MAX_VALUE);
        for (int r : new int[] {-1, 16, Integer.MIN_VALUE, Integer.MAX_VALUE}) {
            DecimalMachine other = new DecimalMachine();
            Check.illegal("set " + r, other, () -> other.set(r, 5));
            Check.illegal("register " + r, other, () -> other.register(r));
        }
    }

    private static void start() {
        DecimalMachine m = Check.ready(0, 3);
        m.set(7, 77);
        m.rr(Check.AT, 10, 15, 14);
        m.run(1);
        Check.same("halts with", m.count(3), 254);
        m.start(0xFFFFFF, 3);
        int[] due = {0xFFFFFF, 0, 3, -1, 2, 0, 0};
        for (int what = 0; what < 7; what++) {
            Check.same("count " + what + " after start", m.count(what), due[what]);
        }
        Check.same("start leaves registers", m.register(7), 77);
        m.start(0, 0);
        Check.same("least NEXT", m.count(0), 0);
        Check.same("least MASK", m.count(2), 0);
        int[][] bad = {{-1, 0}, {1 << 24, 0}, {0, -1}, {0, 4}, {Integer.MIN_VALUE, 0}, {8, Integer.MAX_VALUE}};
        for (int[] b : bad) {
            DecimalMachine other = Check.ready(2, 1);
            Check.illegal("start " + b[0] + " " + b[1], other, () -> other.start(b[0], b[1]));
        }
    }

    private static void count() {
        DecimalMachine m = Check.ready(1, 2);
        Check.same("MASK", m.count(2), 1);
        m.rr(4, 63, 0, 0);
        Check.thrown(() -> m.run(1));
        m.set(2, Integer.MAX_VALUE);
        m.rr(4, 26, 2, 2);
        Check.thrown(() -> m.run(1));
        int[] due = {6, 3, 1, -1, 2, 2, 8};
        for (int what = 0; what < 7; what++) {
            Check.same("count " + what, m.count(what), due[what]);
        }
        m.rr(6, 10, 0, 0);
        Check.same("halts", m.run(200), 1);
        Check.same("halts with 0", m.count(3), 0);
        Check.same("NEXT is behind", m.count(0), 8);
        Check.same("the latest fault stays", m.count(6), 8);
        for (int what : new int[] {-1, 7, Integer.MIN_VALUE, Integer.MAX_VALUE}) {
            DecimalMachine other = new DecimalMachine();
            Check.illegal("count " + what, other, () -> other.count(what));
        }
    }

    private static void objectsAreApart() {
        DecimalMachine one = new DecimalMachine();
        DecimalMachine two = new DecimalMachine();
        one.poke(3, 1, 9);
        one.set(3, 9);
        one.start(9, 1);
        Check.same("octet of the other", two.octet(3), 0);
        Check.same("register of the other", two.register(3), 0);
        Check.same("NEXT of the other", two.count(0), 0);
    }
}
