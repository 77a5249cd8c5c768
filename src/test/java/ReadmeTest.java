/** The examples of README.md answer what it says. */
public final class ReadmeTest {
    public static void main(String[] args) {
        DecimalMachine m = new DecimalMachine();
        aProgramThatHalts(m);
        aProgramWithFault(m);
        Check.end();
    }

    private static void aProgramThatHalts(DecimalMachine m) {
        int a = m.rx(0, 65, 2, 0, 0, 10);
        Check.same("behind LA", a, 4);
        a = m.rx(a, 78, 2, 0, 0, 512);
        Check.same("behind CVD", a, 8);
        a = m.rr(a, 10, 0, 1);
        Check.same("behind SVC", a, 10);
        m.start(0, 0);
        Check.same("run(200)", m.run(200), 3);
        Check.same("packed(512, 8)", m.packed(512, 8), 10);
        Check.same("count(3)", m.count(3), 1);
    }

    private static void aProgramWithFault(DecimalMachine m) {
        m.poke(600, 2, 0x123C);
        m.poke(610, 1, 0x0C);
        Check.same("behind DP", m.ss(20, 253, 0x10, 0, 600, 0, 610), 26);
        m.start(20, 0);
        Check.same("run(1)", Check.thrown(() -> m.run(1)), "ArithmeticException");
        Check.same("count(6)", m.count(6), 11);
        Check.same("count(0)", m.count(0), 20);
        Check.same("packed(600, 2)", m.packed(600, 2), 123);
    }
}
