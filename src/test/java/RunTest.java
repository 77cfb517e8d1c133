/** Promise 8: run. */
public final class RunTest {
    private static final Check CHECK = new Check("RunTest");
    private static final String REFUSED = "IllegalArgumentException";

    public static void main(String[] args) {
        counts();
        refused();
        notRunning();
        asManySteps();
        CHECK.end();
    }

    /** A jump to itself, which never ends. */
    private static NaturalMachine loop() {
        return Check.wide(0, Check.code(2, 0xff));
    }

    private static void counts() {
        NaturalMachine m = loop();
        CHECK.due("run(0)", m.run(0), 0);
        CHECK.due("run(1)", m.run(1), 1);
        CHECK.due("run(200)", m.run(200), 200);
        CHECK.due("still RUNNING", m.state(), NaturalMachine.RUNNING);
        m = Check.wide(0, Check.code(42, 1).then(42, 2).then(4, 0));
        CHECK.due("the last one that is DONE counts", m.run(200), 3);
        CHECK.due("DONE", m.state(), NaturalMachine.DONE);
        CHECK.due("ip behind it", m.ip(), 6);
        m = Check.wide(0, Check.code(42, 1).then(42, 2).then(63, 0));
        CHECK.due("one that met a fault does not count", m.run(200), 2);
        CHECK.due("FAULTED", m.state(), NaturalMachine.FAULTED);
        CHECK.due("its fault", m.fault(), NaturalMachine.OPCODE);
        CHECK.due("ip at it", m.ip(), 4);
        m = Check.wide(0, Check.code(42, 1).then(42, 2).then(63, 0));
        CHECK.due("run(2) stops before the fault", m.run(2), 2);
        CHECK.due("RUNNING before the fault", m.state(), NaturalMachine.RUNNING);
        CHECK.due("run(1) at the fault", m.run(1), 0);
        CHECK.due("FAULTED at the fault", m.state(), NaturalMachine.FAULTED);
        m = Check.wide(508, Check.code(42, 1).then(42, 2));
        CHECK.due("out of the memory", m.run(3), 2);
        CHECK.due("out of the memory: fault", m.fault(), NaturalMachine.ADDRESS);
        CHECK.due("out of the memory: ip", m.ip(), 512);
    }

    private static void refused() {
        int[] wrong = {-1, 201, Integer.MIN_VALUE, Integer.MAX_VALUE};
        for (int n : wrong) {
            NaturalMachine m = loop();
            CHECK.throwing("run(" + n + ")", () -> m.run(n), REFUSED);
            CHECK.due("RUNNING", m.state(), NaturalMachine.RUNNING);
            NaturalMachine stopped = new NaturalMachine(0);
            CHECK.throwing("run(" + n + ") of one that is STOPPED", () -> stopped.run(n), REFUSED);
        }
    }

    private static void notRunning() {
        NaturalMachine m = new NaturalMachine(0);
        CHECK.due("run of one that is STOPPED", m.run(200), 0);
        CHECK.due("STOPPED", m.state(), NaturalMachine.STOPPED);
        m.start(0);
        CHECK.due("run into a break", m.run(5), 0);
        CHECK.due("run of one that is FAULTED", m.run(5), 0);
        CHECK.due("its fault stays", m.fault(), NaturalMachine.BREAK);
        m.store(0, 4, 2);
        m.start(0);
        CHECK.due("run until DONE", m.run(5), 1);
        CHECK.due("run of one that is DONE", m.run(5), 0);
        CHECK.due("DONE stays", m.state(), NaturalMachine.DONE);
    }

    private static void asManySteps() {
        // R1 is doubled, by R1 + R1, until it is at least 1000.
        Check.Code code = Check.code(12, Check.ab(1, 1)).then(49, 1).i16(1000).then(2 | Check.T, 0xfc).then(4, 0);
        NaturalMachine one = Check.narrow(100, code);
        NaturalMachine other = Check.narrow(100, code);
        one.setRegister(1, 3);
        other.setRegister(1, 3);
        int steps = 0;
        while (other.state() == NaturalMachine.RUNNING && steps < 200) {
            other.step();
            steps++;
        }
        CHECK.due("run does what as many steps do", one.run(200), steps);
        CHECK.due("and ends alike", Check.all(one), Check.all(other));
        CHECK.due("what it makes", one.register(1), 1536);
    }
}
