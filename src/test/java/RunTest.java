/** Promise 8: run. Each method looks at the words of the document that stand above it. */
public final class RunTest {
    private static final Check CHECK = new Check("RunTest");
    private static final int RUNNING = NaturalMachine.RUNNING, DONE = NaturalMachine.DONE;
    private static final int FAULTED = NaturalMachine.FAULTED;
    private static final String REFUSED = "IllegalArgumentException";

    public static void main(String[] args) {
        upToN();
        noneAtAll();
        untilDone();
        untilAFault();
        untilTheMemoryEnds();
        notRunning();
        refused();
        asManySteps();
        lastCalls();
        CHECK.end();
    }

    /** R1 + 1 into R1, and again without an end. */
    private static NaturalMachine counter() {
        return Check.wide(0, Check.code(12 | Check.T, Check.ab(1, 2)).i16(1).then(2, 0xfd));
    }

    private static NaturalMachine threeThen(int kind) {
        return Check.wide(0, Check.code(42, 1).then(42, 2).then(42, 3).then(kind, 0));
    }

    /** "Does up to n instructions": how many were done, and they are done. */
    private static void upToN() {
        int[] counts = {1, 2, 3, 199, 200};
        for (int n : counts) {
            NaturalMachine m = counter();
            CHECK.due("run(" + n + ")", m.run(n), n);
            CHECK.due("run(" + n + "): what it did", m.register(1), (n + 1) / 2);
            CHECK.due("run(" + n + "): ip", m.ip(), n % 2 == 0 ? 0 : 4);
            CHECK.due("run(" + n + "): state", m.state(), RUNNING);
        }
    }

    /** run(0) does nothing, even where a fault would be met. */
    private static void noneAtAll() {
        NaturalMachine m = Check.wide(0, Check.code(0, 0));
        CHECK.due("run(0)", m.run(0), 0);
        CHECK.due("run(0): state", m.state(), RUNNING);
        CHECK.due("run(0): fault", m.fault(), NaturalMachine.NO_FAULT);
        m = Check.wide(0, Check.code(4, 0));
        CHECK.due("run(0) before the end", m.run(0), 0);
        CHECK.due("run(0) before the end: state", m.state(), RUNNING);
    }

    /** "as long as the machine is RUNNING": the instruction that makes it DONE counts. */
    private static void untilDone() {
        int[] counts = {4, 5, 200};
        for (int n : counts) {
            NaturalMachine m = threeThen(4);
            CHECK.due("run(" + n + ") to the end", m.run(n), 4);
            CHECK.due("DONE", m.state(), DONE);
            CHECK.due("ip behind it", m.ip(), 8);
        }
        NaturalMachine m = threeThen(4);
        CHECK.due("run(3) before the end", m.run(3), 3);
        CHECK.due("still RUNNING", m.state(), RUNNING);
        CHECK.due("run(1) to the end", m.run(1), 1);
        CHECK.due("DONE now", m.state(), DONE);
    }

    /** "(one that met a fault does not count)" */
    private static void untilAFault() {
        int[] counts = {4, 5, 200};
        for (int n : counts) {
            NaturalMachine m = threeThen(63);
            CHECK.due("run(" + n + ") to a fault", m.run(n), 3);
            CHECK.due("FAULTED", m.state(), FAULTED);
            CHECK.due("its fault", m.fault(), NaturalMachine.OPCODE);
            CHECK.due("ip at it", m.ip(), 6);
        }
        NaturalMachine m = threeThen(0);
        CHECK.due("run(3) before the fault", m.run(3), 3);
        CHECK.due("RUNNING before the fault", m.state(), RUNNING);
        CHECK.due("run(1) at the fault", m.run(1), 0);
        CHECK.due("FAULTED at the fault", m.state(), FAULTED);
        CHECK.due("the fault", m.fault(), NaturalMachine.BREAK);
    }

    /** The IP may leave the memory; what is met then is met by the next instruction. */
    private static void untilTheMemoryEnds() {
        NaturalMachine m = Check.wide(508, Check.code(42, 1).then(42, 2));
        CHECK.due("out of the memory", m.run(3), 2);
        CHECK.due("out of the memory: fault", m.fault(), NaturalMachine.ADDRESS);
        CHECK.due("out of the memory: ip", m.ip(), 512);
    }

    /** "(0, if it is not)" */
    private static void notRunning() {
        NaturalMachine stopped = new NaturalMachine(0);
        stopped.store(0, 4, 2);
        stays("STOPPED", stopped);
        NaturalMachine done = Check.wide(0, Check.code(4, 0).then(42, 1));
        done.run(1);
        stays("DONE", done);
        NaturalMachine faulted = Check.wide(0, Check.code(0, 0));
        faulted.run(1);
        stays("FAULTED", faulted);
    }

    private static void stays(String name, NaturalMachine m) {
        String before = Check.all(m);
        int state = m.state();
        int fault = m.fault();
        CHECK.due("run(0) of one that is " + name, m.run(0), 0);
        CHECK.due("run(1) of one that is " + name, m.run(1), 0);
        CHECK.due("run(200) of one that is " + name, m.run(200), 0);
        CHECK.due(name + " stays", m.state(), state);
        CHECK.due(name + ": the fault stays", m.fault(), fault);
        CHECK.due(name + ": all else stays", Check.all(m), before);
    }

    /** "IllegalArgumentException when n is not 0 .. 200.": in every state, and nothing is done. */
    private static void refused() {
        int[] wrong = {-1, 201, -200, 256, Integer.MIN_VALUE, Integer.MAX_VALUE};
        for (int n : wrong) {
            NaturalMachine m = counter();
            String before = Check.all(m);
            CHECK.throwing("run(" + n + ")", () -> m.run(n), REFUSED);
            CHECK.due("run(" + n + "): state", m.state(), RUNNING);
            CHECK.due("run(" + n + "): all else", Check.all(m), before);
            NaturalMachine stopped = new NaturalMachine(0);
            CHECK.throwing("run(" + n + ") of one that is STOPPED", () -> stopped.run(n), REFUSED);
            NaturalMachine done = Check.wide(0, Check.code(4, 0));
            done.run(1);
            CHECK.throwing("run(" + n + ") of one that is DONE", () -> done.run(n), REFUSED);
            CHECK.due("DONE stays", done.state(), DONE);
            NaturalMachine faulted = Check.wide(0, Check.code(0, 0));
            faulted.run(1);
            CHECK.throwing("run(" + n + ") of one that is FAULTED", () -> faulted.run(n), REFUSED);
            CHECK.due("FAULTED stays", faulted.state(), FAULTED);
        }
    }

    private static void asManySteps() {
        // R1 is doubled, by R1 + R1, until it is at least 1000.
        Check.Code code = Check.code(12, Check.ab(1, 1)).then(49, 1).i16(1000).then(2 | Check.T, 0xfc).then(4, 0);
        NaturalMachine one = Check.with(Check.narrow(100, code), 1, 3);
        NaturalMachine other = Check.with(Check.narrow(100, code), 1, 3);
        int steps = 0;
        while (other.state() == RUNNING && steps < 200) {
            other.step();
            steps++;
        }
        CHECK.due("run does what as many steps do", one.run(200), steps);
        CHECK.due("and ends alike", Check.all(one), Check.all(other));
        CHECK.due("what it makes", one.register(1), 1536);
    }

    /** "An object is used for at most 512 calls": the 512th answers as the first does. */
    private static void lastCalls() {
        NaturalMachine m = counter();
        // Seven calls wrote and started it.
        for (int call = 8; call <= 511; call++) {
            CHECK.due("run(200), call " + call, m.run(200), 200);
        }
        CHECK.due("register(1), call 512", m.register(1), 504 * 100);
    }
}
