/** One instruction on a machine made ready: what is told of it must change, and nothing else may. */
final class Step {
    /** Where the instruction stands, unless another place is told. */
    static final int AT = 4;
    static final int FIELD = 512;
    private static final int TEST_UNDER_MASK = 145;
    private static final int COMPARE_OCTET = 149;
    // The octets that are looked at though nothing was told of them: few, since an object has 512 calls.
    private static final int[][] WINDOWS = {{0, 16}, {496, 576}, {1008, 1024}};

    final DecimalMachine machine = new DecimalMachine();
    private final String what;
    private final int[] octets = new int[1024];
    private final boolean[] told = new boolean[1024];
    private final int[] registers = new int[16];
    private final int mask;
    private int at = AT;
    private int next = AT;
    private int condition;
    private int halt = -1;
    private int done = 0;

    Step(String what, int mask, int condition) {
        this.what = what;
        this.mask = mask;
        this.condition = condition;
        machine.start(0, mask);
        makeCondition();
    }

    /** By an instruction that has its own first octet as operand, so that nothing else is touched. */
    private void makeCondition() {
        int code = condition == 3 ? TEST_UNDER_MASK : COMPARE_OCTET;
        int[] immediates = {code, code + 1, code - 1, code};
        int i = immediates[condition];
        machine.rx(0, code, i >> 4, i & 15, 0, 0);
        machine.run(1);
        done = 1;
        expect(0, new int[] {code, i, 0, 0});
    }

    Step given(int r, int v) {
        machine.set(r, v);
        registers[r] = v;
        return this;
    }

    Step given(int a, String hex) {
        int n = hex.length() / 2;
        for (int i = 0; i < n; i += 8) {
            int some = Math.min(8, n - i);
            machine.poke(a + i, some, Long.parseUnsignedLong(hex.substring(2 * i, 2 * (i + some)), 16));
        }
        return leaves(a, hex);
    }

    /** Puts the instruction elsewhere; CC is 0 then, as it is after start. */
    Step at(int a) {
        at = a;
        next = a;
        condition = 0;
        machine.start(a, mask);
        return this;
    }

    Step rr(int code, int r, int s) {
        next = machine.rr(at, code, r, s);
        expect(at, new int[] {code, r * 16 + s});
        return this;
    }

    Step rx(int code, int r, int x, int b, int d) {
        next = machine.rx(at, code, r, x, b, d);
        expect(at, new int[] {code, r * 16 + x, b * 16 + d / 256, d % 256});
        return this;
    }

    Step ss(int code, int l, int b, int d, int c, int e) {
        next = machine.ss(at, code, l, b, d, c, e);
        expect(at, new int[] {code, l, b * 16 + d / 256, d % 256, c * 16 + e / 256, e % 256});
        return this;
    }

    /** Due: the register has this value afterwards. */
    Step gives(int r, int v) {
        registers[r] = v;
        return this;
    }

    /** Due: these octets stand there afterwards. */
    Step leaves(int a, String hex) {
        int[] due = new int[hex.length() / 2];
        for (int i = 0; i < due.length; i++) {
            due[i] = Integer.parseInt(hex.substring(2 * i, 2 * i + 2), 16);
        }
        expect(a, due);
        return this;
    }

    private void expect(int a, int[] due) {
        for (int i = 0; i < due.length; i++) {
            octets[a + i] = due[i];
            told[a + i] = true;
        }
    }

    /** Due: this CC. */
    Step condition(int due) {
        condition = due;
        return this;
    }

    /** Due: NEXT is this. */
    Step goes(int due) {
        next = due;
        return this;
    }

    /** Due: the machine halts. */
    Step halts(int due) {
        halt = due;
        return this;
    }

    void done() {
        done++;
        end("1", 0, 0);
    }

    /** FAULT 8 or 10: all is done. */
    void overflows(int fault) {
        done++;
        condition = 3;
        end("ArithmeticException", 1, fault);
    }

    /** Another FAULT: nothing is done. */
    void stops(int fault) {
        next = at;
        end(exceptionOf(fault), 1, fault);
    }

    /** With MASK FIXED or DECIMAL as told, an overflow is a fault or just CC 3. */
    void overflowsIf(boolean isFault, int fault) {
        if (isFault) {
            overflows(fault);
        } else {
            condition(3).done();
        }
    }

    private void end(String answer, int faults, int latest) {
        Check.same(what + ": run", answer(), answer);
        int[] counts = {next, condition, mask, halt, done, faults, latest};
        for (int i = 0; i < counts.length; i++) {
            Check.same(what + ": count " + i, machine.count(i), counts[i]);
        }
        for (int r = 0; r < 16; r++) {
            Check.same(what + ": register " + r, machine.register(r), registers[r]);
        }
        for (int[] window : WINDOWS) {
            for (int a = window[0]; a < window[1]; a++) {
                told[a] = true;
            }
        }
        for (int a = 0; a < 1024; a++) {
            if (told[a]) {
                Check.same(what + ": octet " + a, machine.octet(a), octets[a]);
            }
        }
    }

    private String answer() {
        try {
            return String.valueOf(machine.run(1));
        } catch (RuntimeException e) {
            return e.getClass().getSimpleName();
        }
    }

    private static String exceptionOf(int fault) {
        switch (fault) {
            case 1: case 6: case 7:
                return "IllegalArgumentException";
            case 5:
                return "IndexOutOfBoundsException";
            default:
                return "ArithmeticException";
        }
    }
}
