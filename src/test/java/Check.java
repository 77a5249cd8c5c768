/** What the tests share: a machine made ready, and answers held against those that are due. */
final class Check {
    /** Where a machine that is ready has NEXT: the instruction to be tested is put there. */
    static final int AT = 4;
    /** The octets that a look at a machine takes in; few, since an object has 512 calls. */
    static final int FIELD = 512;
    private static final int FIELD_END = FIELD + 40;

    private static final int PRINTED = 200;

    private static int wrong = 0;
    private static int checked = 0;

    private Check() {
    }

    static void same(String what, long got, long due) {
        checked++;
        if (got != due) {
            tell(what + " answered " + got + ", due is " + due);
        }
    }

    static void same(String what, String got, String due) {
        checked++;
        if (!got.equals(due)) {
            tell(what + " answered " + got + ", due is " + due);
        }
    }

    /** Only the first ones are printed: one slip can spoil millions of checks. */
    private static void tell(String answer) {
        wrong++;
        if (wrong <= PRINTED) {
            System.out.println(answer);
        }
    }

    static void end() {
        System.out.println(checked + " checks, " + wrong + " wrong");
        if (wrong != 0 || checked == 0) {
            System.exit(1);
        }
    }

    /** A machine with this MASK and CC that has done one instruction, NEXT being AT. */
    static DecimalMachine ready(int mask, int condition) {
        DecimalMachine m = new DecimalMachine();
        m.poke(1023, 1, 1);
        m.set(15, 1023);
        if (condition == 3) {
            m.rx(0, 145, 0, 1, 15, 0);
        } else {
            int against = condition == 0 ? 1 : condition == 1 ? 2 : 0;
            m.rx(0, 149, 0, against, 15, 0);
        }
        m.start(0, mask);
        same("making ready", m.run(1), 1);
        same("CC made ready", m.count(1), condition);
        return m;
    }

    /** The instruction at NEXT is done without a fault and leaves this CC. */
    static void done(String what, DecimalMachine m, int condition) {
        int before = m.count(4);
        same(what + ": exception", thrown(() -> m.run(1)), "none");
        same(what + ": done", m.count(4), before + 1);
        same(what + ": CC", m.count(1), condition);
        same(what + ": faults", m.count(5), 0);
    }

    /** The same, and it goes to this address. */
    static void goes(String what, DecimalMachine m, int condition, int next) {
        done(what, m, condition);
        same(what + ": NEXT", m.count(0), next);
    }

    /** The instruction at NEXT has this fault, and nothing of it is done. */
    static void stopped(String what, DecimalMachine m, int fault) {
        String before = look(m) + m.count(4);
        int faults = m.count(5);
        same(what + ": exception", thrown(() -> m.run(1)), exceptionOf(fault));
        same(what + ": state", look(m) + m.count(4), before);
        same(what + ": faults", m.count(5), faults + 1);
        same(what + ": fault", m.count(6), fault);
    }

    /** The instruction at NEXT is done, tells this fault, leaves CC 3 and goes on behind it. */
    static void overflowed(String what, DecimalMachine m, int fault, int next) {
        int before = m.count(4);
        int faults = m.count(5);
        same(what + ": exception", thrown(() -> m.run(1)), "ArithmeticException");
        same(what + ": CC", m.count(1), 3);
        same(what + ": NEXT", m.count(0), next);
        same(what + ": done", m.count(4), before + 1);
        same(what + ": faults", m.count(5), faults + 1);
        same(what + ": fault", m.count(6), fault);
    }

    /** The call throws this exception and changes nothing. */
    static void refused(String what, DecimalMachine m, String exception, Runnable call) {
        String before = look(m) + m.count(4) + m.count(5) + m.count(6);
        same(what + ": exception", thrown(call), exception);
        same(what + ": state", look(m) + m.count(4) + m.count(5) + m.count(6), before);
    }

    static void illegal(String what, DecimalMachine m, Runnable call) {
        refused(what, m, "IllegalArgumentException", call);
    }

    static void outside(String what, DecimalMachine m, Runnable call) {
        refused(what, m, "IndexOutOfBoundsException", call);
    }

    static String thrown(Runnable call) {
        try {
            call.run();
        } catch (RuntimeException e) {
            return e.getClass().getSimpleName();
        }
        return "none";
    }

    /** Octets in hexadecimal, two digits each. */
    static String octets(DecimalMachine m, int a, int n) {
        StringBuilder text = new StringBuilder();
        for (int i = 0; i < n; i++) {
            text.append(String.format("%02x", m.octet(a + i)));
        }
        return text.toString();
    }

    /** Puts octets that are written in hexadecimal. */
    static void put(DecimalMachine m, int a, String octets) {
        for (int i = 0; i < octets.length(); i += 2) {
            m.poke(a + i / 2, 1, Integer.parseInt(octets.substring(i, i + 2), 16));
        }
    }

    private static String look(DecimalMachine m) {
        StringBuilder text = new StringBuilder(octets(m, FIELD, FIELD_END - FIELD));
        text.append(octets(m, 1016, 8)).append(octets(m, 0, 10));
        for (int r = 0; r < 16; r++) {
            text.append(' ').append(m.register(r));
        }
        for (int what = 0; what <= 3; what++) {
            text.append(' ').append(m.count(what));
        }
        return text.toString();
    }

    private static String exceptionOf(int fault) {
        switch (fault) {
            case 1: case 6: case 7:
                return "IllegalArgumentException";
            case 5:
                return "IndexOutOfBoundsException";
            default:
                return "ArithmeticException";
        }
    }
}
