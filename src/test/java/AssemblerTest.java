/** Promises 7 to 9: rr, rx, ss. */
public final class AssemblerTest {
    private static final int LEAST = Integer.MIN_VALUE;
    private static final int MOST = Integer.MAX_VALUE;

    public static void main(String[] args) {
        rightOnes();
        wrongOfTwo();
        wrongOfFour();
        wrongOfSix();
        Check.end();
    }

    private static void rightOnes() {
        DecimalMachine m = new DecimalMachine();
        Check.same("rr", m.rr(512, 26, 2, 13), 514);
        Check.same("octets of rr", Check.octets(m, 512, 3), "1a2d00");
        Check.same("rr at an odd place", m.rr(1021, 63, 15, 15), 1023);
        Check.same("rr at the end", m.rr(1022, 0, 0, 0), 1024);
        Check.same("octets of rr at the end", Check.octets(m, 1021, 3), "3f0000");
        Check.same("rx", m.rx(520, 64, 1, 2, 3, 0x456), 524);
        Check.same("octets of rx", Check.octets(m, 520, 5), "4012345600");
        Check.same("rx at the end", m.rx(1020, 191, 15, 15, 15, 4095), 1024);
        Check.same("octets of rx at the end", Check.octets(m, 1019, 5), "00bfffffff");
        Check.same("ss", m.ss(528, 192, 0xAB, 1, 0x234, 5, 0x678), 534);
        Check.same("octets of ss", Check.octets(m, 528, 7), "c0ab1234567800");
        Check.same("ss at the end", m.ss(1018, 255, 255, 15, 4095, 15, 4095), 1024);
        Check.same("octets of ss at the end", Check.octets(m, 1017, 7), "00ffffffffffff");
        Check.same("ss at the start", m.ss(0, 210, 0, 0, 0, 0, 0), 6);
        Check.same("nothing is run", m.count(4), 0);
    }

    private static void wrongOfTwo() {
        int[][] bad = {{0, 64, 0, 0}, {0, -1, 0, 0}, {0, 5, 16, 0}, {0, 5, -1, 0}, {0, 5, 0, 16}, {0, 5, 0, -1},
            {0, LEAST, 0, 0}, {0, 5, MOST, 0}, {0, 5, 0, LEAST}, {-1, 64, 0, 0}, {1023, 5, 0, 16}};
        for (int[] b : bad) {
            DecimalMachine m = new DecimalMachine();
            Check.illegal("rr", m, () -> m.rr(b[0], b[1], b[2], b[3]));
        }
        for (int a : new int[] {-1, 1023, 1024, LEAST, MOST, 1 << 24}) {
            DecimalMachine m = new DecimalMachine();
            Check.outside("rr at " + a, m, () -> m.rr(a, 5, 1, 1));
        }
    }

    private static void wrongOfFour() {
        int[][] bad = {{0, 63, 0, 0, 0, 0}, {0, 192, 0, 0, 0, 0}, {0, 65, 16, 0, 0, 0}, {0, 65, -1, 0, 0, 0},
            {0, 65, 0, 16, 0, 0}, {0, 65, 0, -1, 0, 0}, {0, 65, 0, 0, 16, 0}, {0, 65, 0, 0, -1, 0},
            {0, 65, 0, 0, 0, 4096}, {0, 65, 0, 0, 0, -1}, {1021, 65, 0, 0, 0, -1}, {0, 65, LEAST, 0, 0, 0}};
        for (int[] b : bad) {
            DecimalMachine m = new DecimalMachine();
            Check.illegal("rx", m, () -> m.rx(b[0], b[1], b[2], b[3], b[4], b[5]));
        }
        for (int a : new int[] {-1, 1021, 1024, LEAST, MOST, 1 << 24}) {
            DecimalMachine m = new DecimalMachine();
            Check.outside("rx at " + a, m, () -> m.rx(a, 65, 1, 1, 1, 1));
        }
    }

    private static void wrongOfSix() {
        int[][] bad = {{191, 0, 0, 0, 0, 0}, {256, 0, 0, 0, 0, 0}, {210, -1, 0, 0, 0, 0}, {210, 256, 0, 0, 0, 0},
            {210, 0, -1, 0, 0, 0}, {210, 0, 16, 0, 0, 0}, {210, 0, 0, -1, 0, 0}, {210, 0, 0, 4096, 0, 0},
            {210, 0, 0, 0, -1, 0}, {210, 0, 0, 0, 16, 0}, {210, 0, 0, 0, 0, -1}, {210, 0, 0, 0, 0, 4096}};
        for (int[] b : bad) {
            DecimalMachine m = new DecimalMachine();
            Check.illegal("ss", m, () -> m.ss(0, b[0], b[1], b[2], b[3], b[4], b[5]));
            Check.illegal("ss outside", m, () -> m.ss(1019, b[0], b[1], b[2], b[3], b[4], b[5]));
        }
        for (int a : new int[] {-1, 1019, 1024, LEAST, MOST, 1 << 24}) {
            DecimalMachine m = new DecimalMachine();
            Check.outside("ss at " + a, m, () -> m.ss(a, 210, 1, 1, 1, 1, 1));
        }
    }
}
