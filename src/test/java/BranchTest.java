/** Promise 10, the instructions that may go elsewhere, and SVC. */
public final class BranchTest {
    private static final int AT = Check.AT;

    public static void main(String[] args) {
        byCondition();
        withLink();
        byCount();
        byIndex();
        halt();
        Check.end();
    }

    private static void byCondition() {
        for (int condition = 0; condition <= 3; condition++) {
            for (int mask = 0; mask <= 15; mask++) {
                boolean goes = mask == 15 || (mask >> (3 - condition)) % 2 == 1;
                DecimalMachine m = Check.ready(0, condition);
                m.set(3, 0xFF000102);
                m.rr(AT, 7, mask, 3);
                Check.goes("BCR " + mask, m, condition, goes ? 0x102 : AT + 2);
                DecimalMachine w = Check.ready(0, condition);
                w.set(3, 40);
                w.set(5, -20);
                w.rx(AT, 71, mask, 3, 5, 80);
                Check.goes("BC " + mask, w, condition, goes ? 100 : AT + 4);
            }
        }
        DecimalMachine nowhere = Check.ready(0, 0);
        nowhere.set(0, 100);
        nowhere.rr(AT, 7, 15, 0);
        Check.goes("BCR with R2 0", nowhere, 0, AT + 2);
        DecimalMachine odd = Check.ready(0, 1);
        odd.rx(AT, 71, 15, 0, 0, 101);
        Check.goes("BC to an odd place is done", odd, 1, 101);
        Check.stopped("an odd NEXT", odd, 6);
        DecimalMachine far = Check.ready(0, 1);
        far.rx(AT, 71, 15, 0, 0, 4094);
        Check.goes("BC to outside is done", far, 1, 4094);
        Check.stopped("NEXT outside", far, 5);
    }

    private static void withLink() {
        DecimalMachine m = Check.ready(0, 2);
        m.set(3, 0x01000200);
        m.rr(AT, 5, 14, 3);
        Check.goes("BALR", m, 2, 0x200);
        Check.same("BALR", m.register(14), AT + 2);
        DecimalMachine self = Check.ready(0, 2);
        self.set(3, 300);
        self.rr(AT, 5, 3, 3);
        Check.goes("BALR by its own", self, 2, 300);
        Check.same("BALR by its own", self.register(3), AT + 2);
        DecimalMachine nowhere = Check.ready(0, 2);
        nowhere.set(0, 300);
        nowhere.rr(AT, 5, 3, 0);
        Check.goes("BALR with R2 0", nowhere, 2, AT + 2);
        Check.same("BALR with R2 0", nowhere.register(3), AT + 2);
        DecimalMachine w = Check.ready(0, 1);
        w.set(3, 300);
        w.rx(AT, 69, 3, 0, 3, 8);
        Check.goes("BAL by its own", w, 1, 308);
        Check.same("BAL by its own", w.register(3), AT + 4);
    }

    private static void count(String what, int before, boolean goes) {
        DecimalMachine m = Check.ready(3, 3);
        m.set(2, before);
        m.set(3, 200);
        m.rr(AT, 6, 2, 3);
        Check.goes(what + " BCTR", m, 3, goes ? 200 : AT + 2);
        Check.same(what + " BCTR", m.register(2), before - 1);
        DecimalMachine w = Check.ready(3, 1);
        w.set(2, before);
        w.rx(AT, 70, 2, 0, 0, 200);
        Check.goes(what + " BCT", w, 1, goes ? 200 : AT + 4);
        Check.same(what + " BCT", w.register(2), before - 1);
    }

    private static void byCount() {
        count("two", 2, true);
        count("one", 1, false);
        count("zero", 0, true);
        count("least", Integer.MIN_VALUE, true);
        DecimalMachine nowhere = Check.ready(0, 0);
        nowhere.set(0, 200);
        nowhere.set(2, 9);
        nowhere.rr(AT, 6, 2, 0);
        Check.goes("BCTR with R2 0", nowhere, 0, AT + 2);
        Check.same("BCTR with R2 0", nowhere.register(2), 8);
        DecimalMachine self = Check.ready(0, 0);
        self.set(2, 200);
        self.rr(AT, 6, 2, 2);
        Check.goes("BCTR by its own", self, 0, 200);
        DecimalMachine base = Check.ready(0, 0);
        base.set(2, 200);
        base.rx(AT, 70, 2, 2, 2, 0);
        Check.goes("BCT by its own", base, 0, 400);
    }

    private static void index(String what, int r3, int first, int step, int limit, boolean above) {
        for (int code = 134; code <= 135; code++) {
            DecimalMachine m = Check.ready(3, 2);
            m.set(r3 | 1, limit);
            m.set(r3, step);
            m.set(2, first);
            m.rx(AT, code, 2, r3, 0, 200);
            Check.goes(what + " " + code, m, 2, above == (code == 134) ? 200 : AT + 4);
            Check.same(what + " " + code, m.register(2), first + step);
        }
    }

    private static void byIndex() {
        index("above", 4, 5, 3, 7, true);
        index("like", 4, 5, 3, 8, false);
        index("below", 4, 5, 3, 9, false);
        index("with signs", 4, 1, -3, 1, false);
        index("odd is step and limit, above", 7, 1, 3, 3, true);
        index("odd is step and limit, not above", 15, 0, 3, 3, false);
        index("wraps", 4, Integer.MAX_VALUE, 1, 0, false);
        index("wraps below", 4, Integer.MIN_VALUE, -1, 0, true);
        DecimalMachine limit = Check.ready(0, 0);
        limit.set(5, 10);
        limit.set(4, 1);
        limit.rx(AT, 134, 5, 4, 5, 100);
        Check.goes("R1 is limit and base", limit, 0, 110);
        Check.same("R1 is limit and base", limit.register(5), 11);
        DecimalMachine step = Check.ready(0, 0);
        step.set(4, 6);
        step.set(5, 11);
        step.rx(AT, 134, 4, 4, 0, 100);
        Check.goes("R1 is step", step, 0, 100);
        Check.same("R1 is step", step.register(4), 12);
    }

    private static void halt() {
        DecimalMachine m = Check.ready(0, 3);
        m.rr(AT, 10, 4, 2);
        Check.goes("SVC", m, 3, AT + 2);
        Check.same("SVC", m.count(3), 66);
        Check.refused("run after SVC", m, "IllegalStateException", () -> m.run(1));
        Check.refused("run 0 after SVC", m, "IllegalStateException", () -> m.run(0));
        m.rr(AT + 2, 24, 1, 1);
        m.start(AT + 2, 0);
        Check.same("start ends it", m.run(1), 1);
    }
}
