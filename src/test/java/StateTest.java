/** Promises 1 to 6, 9, 11 and 12: a new object, and what is told and set from outside. */
public final class StateTest {
    private static final Check CHECK = new Check("StateTest");

    public static void main(String[] args) {
        newObject();
        pointerSize();
        storeAndPeek();
        registers();
        start();
        CHECK.end();
    }

    private static void newObject() {
        NaturalMachine m = new NaturalMachine(3);
        for (int address = 0; address < 512; address++) {
            CHECK.due("new: peek", m.peek(address), 0);
        }
        CHECK.due("new: R0", m.register(0), 512);
        for (int r = 1; r < 8; r++) {
            CHECK.due("new: register", m.register(r), 0);
        }
        CHECK.due("new: condition", m.condition(), false);
        CHECK.due("new: state", m.state(), NaturalMachine.STOPPED);
        CHECK.due("new: fault", m.fault(), NaturalMachine.NO_FAULT);
        CHECK.due("new: ip", m.ip(), 0);
        CHECK.throwing("new: step", () -> m.step(), "IllegalStateException");
    }

    private static void pointerSize() {
        int[] wide = {0, 1, 2, 7, -1, -2, -3, Integer.MAX_VALUE, Integer.MIN_VALUE};
        int[] size = {4, 8, 4, 8, 8, 4, 8, 8, 4};
        for (int i = 0; i < wide.length; i++) {
            NaturalMachine m = new NaturalMachine(wide[i]);
            CHECK.due("P for " + wide[i], m.index(0x1001, 16, 2), size[i]);
            Check.code(53, 0).into(m, 0);
            CHECK.steps("push of a pointer", m, 53);
            CHECK.due("R0 behind a pointer for " + wide[i], m.register(0), 512 - size[i]);
        }
    }

    private static void storeAndPeek() {
        NaturalMachine m = new NaturalMachine(0);
        CHECK.due("store of eight", m.store(0, 0x8877665544332211L, 8), true);
        for (int i = 0; i < 8; i++) {
            CHECK.due("lowest first " + i, m.peek(i), 0x11 * (i + 1));
        }
        for (int n = 1; n <= 8; n++) {
            NaturalMachine x = new NaturalMachine(0);
            CHECK.due("store to the end", x.store(512 - n, -1, n), true);
            CHECK.due("the byte before", x.peek(511 - n), 0);
            CHECK.due("the first byte", x.peek(512 - n), 255);
            CHECK.due("the last byte", x.peek(511), 255);
            CHECK.due("store in the middle", x.store(100, -1, n), true);
            CHECK.due("the last of n", x.peek(99 + n), 255);
            CHECK.due("the byte behind", x.peek(100 + n), 0);
        }
        String before = Check.all(m);
        int[] address = {0, 0, 0, 0, 511, 505, 512, 1000, -1, -8, Integer.MAX_VALUE, Integer.MIN_VALUE,
            Integer.MAX_VALUE - 3};
        int[] n = {0, 9, -1, Integer.MIN_VALUE, 2, 8, 1, 1, 1, 8, 8, 1, 8};
        for (int i = 0; i < n.length; i++) {
            CHECK.due("store(" + address[i] + ", -1, " + n[i] + ")", m.store(address[i], -1, n[i]), false);
        }
        CHECK.due("store with n beyond int's bytes", m.store(0, -1, Integer.MAX_VALUE), false);
        CHECK.due("stores that answer false", Check.all(m), before);
        int[] nowhere = {-1, 512, 513, Integer.MAX_VALUE, Integer.MIN_VALUE};
        for (int where : nowhere) {
            CHECK.due("peek(" + where + ")", m.peek(where), -1);
        }
        CHECK.due("store of 128", m.store(9, 128, 1), true);
        CHECK.due("peek of 128", m.peek(9), 128);
    }

    private static void registers() {
        NaturalMachine m = new NaturalMachine(0);
        for (int r = 0; r < 8; r++) {
            CHECK.due("setRegister", m.setRegister(r, Long.MIN_VALUE + r), true);
        }
        String before = Check.all(m);
        int[] none = {-1, 8, 9, Integer.MAX_VALUE, Integer.MIN_VALUE};
        for (int r : none) {
            CHECK.due("setRegister(" + r + ")", m.setRegister(r, 5), false);
            CHECK.due("register(" + r + ")", m.register(r), 0);
        }
        CHECK.due("registers that are none", Check.all(m), before);
        for (int r = 0; r < 8; r++) {
            CHECK.due("register", m.register(r), Long.MIN_VALUE + r);
        }
    }

    private static void start() {
        NaturalMachine m = new NaturalMachine(1);
        int[] nowhere = {-1, 512, Integer.MAX_VALUE, Integer.MIN_VALUE};
        for (int where : nowhere) {
            CHECK.due("start(" + where + ")", m.start(where), false);
        }
        CHECK.due("state where there is no such address", m.state(), NaturalMachine.STOPPED);
        m.setRegister(1, 1);
        Check.code(41, Check.ab(0, 1)).then(0, 0).into(m, 20);
        CHECK.steps("the condition is made true", m, 41);
        CHECK.due("condition", m.condition(), true);
        CHECK.due("ip", m.ip(), 22);
        CHECK.faults("break", m, NaturalMachine.BREAK);
        CHECK.throwing("step of a faulted one", () -> m.step(), "IllegalStateException");
        CHECK.due("start(512) of a faulted one", m.start(512), false);
        CHECK.due("it stays FAULTED", m.state(), NaturalMachine.FAULTED);
        CHECK.due("its fault stays", m.fault(), NaturalMachine.BREAK);
        CHECK.due("its ip stays", m.ip(), 22);
        CHECK.due("start(511)", m.start(511), true);
        CHECK.due("it is RUNNING", m.state(), NaturalMachine.RUNNING);
        CHECK.due("without a fault", m.fault(), NaturalMachine.NO_FAULT);
        CHECK.due("ip is 511", m.ip(), 511);
        CHECK.due("the condition stays", m.condition(), true);
        CHECK.due("R1 stays", m.register(1), 1);
        CHECK.due("the memory stays", m.peek(20), 41);
        CHECK.due("start of a RUNNING one", m.start(0), true);
        CHECK.due("ip is 0", m.ip(), 0);
        m.store(0, 4, 2);
        CHECK.steps("done", m, 4);
        CHECK.due("DONE", m.state(), NaturalMachine.DONE);
        CHECK.throwing("step of a done one", () -> m.step(), "IllegalStateException");
        CHECK.due("start of a DONE one", m.start(0), true);
        CHECK.due("RUNNING again", m.state(), NaturalMachine.RUNNING);
    }
}
