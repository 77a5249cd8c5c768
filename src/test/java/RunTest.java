/** Promise 10: run itself, where instructions stand, and the faults of an instruction as such. */
public final class RunTest {
    private static final int AT = Check.AT;

    public static void main(String[] args) {
        steps();
        wrongCounts();
        unknownCodes();
        placesOfInstructions();
        faultInTheMiddle();
        overflowInTheMiddle();
        program();
        changesItself();
        Check.end();
    }

    /** Ten times LR, then SVC. */
    private static DecimalMachine ten() {
        DecimalMachine m = new DecimalMachine();
        int a = 0;
        for (int i = 0; i < 10; i++) {
            a = m.rr(a, 24, 1, 1);
        }
        m.rr(a, 10, 0, 7);
        m.start(0, 0);
        return m;
    }

    private static void steps() {
        DecimalMachine m = ten();
        Check.same("run 3", m.run(3), 3);
        Check.same("NEXT", m.count(0), 6);
        Check.same("done", m.count(4), 3);
        Check.same("run up to SVC", m.run(200), 8);
        Check.same("done up to SVC", m.count(4), 11);
        Check.same("halts with", m.count(3), 7);
        Check.same("just up to SVC", ten().run(11), 11);
        DecimalMachine before = ten();
        Check.same("just before SVC", before.run(10), 10);
        Check.same("does not halt", before.count(3), -1);
        DecimalMachine loop = new DecimalMachine();
        loop.rx(0, 71, 15, 0, 0, 0);
        Check.same("a loop ends", loop.run(200), 200);
        Check.same("a loop goes on", loop.run(1), 1);
        Check.same("a loop is counted", loop.count(4), 201);
    }

    private static void wrongCounts() {
        for (int n : new int[] {0, 201, -1, Integer.MIN_VALUE, Integer.MAX_VALUE}) {
            DecimalMachine m = ten();
            Check.illegal("run " + n, m, () -> m.run(n));
            Check.same("no fault", m.count(5), 0);
        }
        DecimalMachine halted = ten();
        halted.run(200);
        Check.refused("run 201, halted", halted, "IllegalStateException", () -> halted.run(201));
    }

    private static void unknownCodes() {
        String known = " 5 6 7 10 16 17 18 19 20 21 22 23 24 25 26 27 28 29 30 31 64 65 66 67 69 70 71 72 73 74 75 76"
            + " 78 79 80 84 85 86 87 88 89 90 91 92 93 94 95 134 135 136 137 138 139 144 152 145 146 148 149 150 151"
            + " 209 210 211 212 213 214 215 220 242 243 248 249 250 251 252 253 ";
        for (int code = 0; code <= 255; code++) {
            DecimalMachine m = Check.ready(3, 1);
            m.poke(AT, 1, code);
            if (known.contains(" " + code + " ")) {
                Check.thrown(() -> m.run(1));
                Check.same("code " + code + " is known", m.count(6) == 1 ? 1 : 0, 0);
            } else {
                Check.stopped("code " + code, m, 1);
                m.poke(AT + 1, 5, -1);
                Check.stopped("code " + code + " with wrong addresses", m, 1);
            }
        }
    }

    private static void at(String what, int a, String octets, int fault) {
        DecimalMachine m = new DecimalMachine();
        if (!octets.isEmpty()) {
            Check.put(m, a, octets);
        }
        m.start(a, 0);
        Check.stopped(what, m, fault);
    }

    private static void placesOfInstructions() {
        at("odd", 1, "1811", 6);
        at("odd and unknown", 513, "ffff", 6);
        at("odd and outside", 1025, "", 6);
        at("odd and far outside", (1 << 24) - 1, "", 6);
        at("outside", 1024, "", 5);
        at("far outside", (1 << 24) - 2, "", 5);
        at("half outside", 1022, "4100", 5);
        at("two thirds outside", 1022, "d200", 5);
        at("one third outside", 1020, "d2000000", 5);
        at("half outside and unknown", 1022, "4400", 5);
        at("a third outside and unknown", 1020, "ff000000", 5);
        at("at the end and unknown", 1022, "0000", 1);
        at("the last code of two", 1022, "3f00", 1);
        at("the first code of four", 1022, "4000", 5);
        at("the last code of four", 1020, "bf000000", 1);
        at("the first code of six", 1020, "c0000000", 5);
        DecimalMachine two = new DecimalMachine();
        two.rr(1022, 24, 0, 0);
        two.start(1022, 0);
        Check.goes("two at the end", two, 0, 1024);
        Check.stopped("behind the end", two, 5);
        DecimalMachine four = new DecimalMachine();
        four.rx(1020, 65, 1, 0, 0, 5);
        four.start(1020, 0);
        Check.goes("four at the end", four, 0, 1024);
        DecimalMachine six = new DecimalMachine();
        six.ss(1018, 210, 0, 0, 0, 0, 0);
        six.start(1018, 0);
        Check.goes("six at the end", six, 0, 1024);
    }

    private static void faultInTheMiddle() {
        DecimalMachine m = ten();
        m.rx(4, 65, 3, 0, 0, 9);
        m.rx(8, 88, 4, 0, 0, 2);
        Check.same("exception", Check.thrown(() -> m.run(9)), "IllegalArgumentException");
        Check.same("what was done before stays", m.register(3), 9);
        Check.same("done before", m.count(4), 3);
        Check.same("NEXT stays", m.count(0), 8);
        Check.same("it faults again", Check.thrown(() -> m.run(9)), "IllegalArgumentException");
        Check.same("faults", m.count(5), 2);
        Check.same("latest", m.count(6), 6);
        m.rr(8, 10, 0, 1);
        Check.same("it goes on", m.run(9), 1);
        Check.same("the latest stays", m.count(6), 6);
    }

    private static void overflowInTheMiddle() {
        DecimalMachine m = ten();
        m.set(2, Integer.MIN_VALUE);
        m.rr(4, 19, 2, 2);
        m.start(0, 1);
        Check.same("exception", Check.thrown(() -> m.run(9)), "ArithmeticException");
        Check.same("done, and it", m.count(4), 3);
        Check.same("NEXT is behind", m.count(0), 6);
        Check.same("run goes on", m.run(200), 8);
        Check.same("faults", m.count(5), 1);
    }

    /** The sum of 1 to 10, packed in the end. */
    private static void program() {
        DecimalMachine m = new DecimalMachine();
        int a = m.rx(0, 65, 2, 0, 0, 10);
        a = m.rr(a, 23, 3, 3);
        int loop = a;
        a = m.rr(a, 26, 3, 2);
        a = m.rx(a, 70, 2, 0, 0, loop);
        a = m.rx(a, 78, 3, 0, 0, 512);
        m.rr(a, 10, 15, 15);
        Check.same("a program", m.run(200), 24);
        Check.same("its sum", m.packed(512, 8), 55);
        Check.same("its end", m.count(3), 255);
    }

    private static void changesItself() {
        DecimalMachine m = new DecimalMachine();
        m.rx(0, 146, 0, 10, 0, 4);
        m.rr(4, 24, 0, 3);
        Check.same("an instruction made by another", m.run(9), 2);
        Check.same("it is SVC", m.count(3), 3);
    }
}
